def w_X3_findReached_J129 (Q : MS → Prop) (k72 : MS → Int32 → Int32 → Int32 → Int32 → Prop) (U129 : MS) (v129_1 : Int32) (v129_2 : Int32) (v129_3 : Int32) (v129_4 : Int32) : Prop := (wfC U129 → (∀ a29 : Int32, a29 = (v129_4 + Int32.ofInt 1) → k72 U129 v129_1 v129_2 v129_3 a29))
def w_X3_findReached_L72 (Q : MS → Prop) (k42 : MS → Int32 → Int32 → Prop) : Nat → MS → Int32 → Int32 → Int32 → Int32 → Prop
  | 0, _, _, _, _, _ => False
  | n72 + 1, U72, v72_1, v72_2, v72_3, v72_4 => (wfC U72 → (((0 : Int) ≤ (v72_3 + (1 : Int32)).toInt ∧ (v72_3 + (1 : Int32)).toInt < (qN U72 (qO U72 52 4) : Int)) ∧ (((qI U72 (qO U72 52 4) (((v72_3 + (1 : Int32)).toInt).toNat)).toInt ≤ v72_4.toInt → (∀ a21 : Int32, a21 = (v72_2 + Int32.ofInt 1) → k42 U72 v72_1 a21)) ∧ (¬ (qI U72 (qO U72 52 4) (((v72_3 + (1 : Int32)).toInt).toNat)).toInt ≤ v72_4.toInt → (((0 : Int) ≤ v72_4.toInt ∧ v72_4.toInt < (qN U72 (qO U72 52 5) : Int)) ∧ (((0 : Int) ≤ (qI U72 (qO U72 52 5) v72_4.toInt.toNat).toInt ∧ (qI U72 (qO U72 52 5) v72_4.toInt.toNat).toInt < (qN U72 (qO U72 52 8) : Int)) ∧ (((qI U72 (qO U72 52 8) (((qI U72 (qO U72 52 5) v72_4.toInt.toNat).toInt).toNat)).toInt = 0 → (((0 : Int) ≤ v72_4.toInt ∧ v72_4.toInt < (qN U72 (qO U72 52 5) : Int)) ∧ (((0 : Int) ≤ (qI U72 (qO U72 52 5) v72_4.toInt.toNat).toInt ∧ (qI U72 (qO U72 52 5) v72_4.toInt.toNat).toInt < (qN U72 (qO U72 52 8) : Int)) ∧ (∀ S36, S36 = wI U72 (qO U72 52 8) (((qI U72 (qO U72 52 5) v72_4.toInt.toNat).toInt).toNat) (vp_nar .boolean (1 : Int32)) → qT U72 (qO U72 52 8) = 303 → wfC S36 → (((0 : Int) ≤ v72_4.toInt ∧ v72_4.toInt < (qN S36 (qO S36 52 5) : Int)) ∧ (((0 : Int) ≤ v72_1.toInt ∧ v72_1.toInt < (qN S36 (qO S36 52 15) : Int)) ∧ (∀ S42, S42 = wI S36 (qO S36 52 15) v72_1.toInt.toNat (qI S36 (qO S36 52 5) v72_4.toInt.toNat) → qT S36 (qO S36 52 15) = 212 → wfC S42 → (∀ a43 : Int32, a43 = (v72_1 + Int32.ofInt 1) → w_X3_findReached_J129 Q (w_X3_findReached_L72 Q k42 n72) S42 a43 v72_2 v72_3 v72_4)))))))) ∧ (¬ (qI U72 (qO U72 52 8) (((qI U72 (qO U72 52 5) v72_4.toInt.toNat).toInt).toNat)).toInt = 0 → w_X3_findReached_J129 Q (w_X3_findReached_L72 Q k42 n72) U72 v72_1 v72_2 v72_3 v72_4))))))))
def w_X3_findReached_L42 (Q : MS → Prop) : Nat → MS → Int32 → Int32 → Prop
  | 0, _, _, _ => False
  | n42 + 1, U42, v42_1, v42_2 => (wfC U42 → ((v42_1.toInt ≤ 0 → Q U42) ∧ (¬ v42_1.toInt ≤ 0 → (((qI U42 52 1).toInt ≤ v42_2.toInt → Q U42) ∧ (¬ (qI U42 52 1).toInt ≤ v42_2.toInt → (∀ a7 : Int32, a7 = (v42_1 + Int32.ofInt (-1)) → (((0 : Int) ≤ a7.toInt ∧ a7.toInt < (qN U42 (qO U42 52 15) : Int)) ∧ (∀ a11 : Int32, a11 = (qI U42 (qO U42 52 15) a7.toInt.toNat) → (((0 : Int) ≤ a11.toInt ∧ a11.toInt < (qN U42 (qO U42 52 4) : Int)) ∧ (∀ a15 : Int32, a15 = (qI U42 (qO U42 52 4) a11.toInt.toNat) → (∃ n, w_X3_findReached_L72 Q (w_X3_findReached_L42 Q n42) n U42 a7 v42_2 a11 a15)))))))))))
def w_X3_findReached_J24 (Q : MS → Prop) (k2 : MS → Int32 → Prop) (U24 : MS) (t24_0 : Int32) (t24_1 : Int32) (t24_2 : Nat) (v24_1 : Int32) : Prop := (wfC U24 → qT U24 t24_2 = 303 → (t24_0 = 0 ∨ t24_0 = 1) → (((0 : Int) ≤ t24_1.toInt ∧ t24_1.toInt < (qN U24 t24_2 : Int)) ∧ (∀ S46, S46 = wI U24 t24_2 t24_1.toInt.toNat (vp_nar .boolean t24_0) → qT U24 t24_2 = 303 → wfC S46 → (∀ a47 : Int32, a47 = (v24_1 + Int32.ofInt 1) → k2 S46 a47))))
def w_X3_findReached_L2 (Q : MS → Prop) : Nat → MS → Int32 → Prop
  | 0, _, _ => False
  | n2 + 1, U2, v2_1 => (wfC U2 → (((qI U2 52 1).toInt ≤ v2_1.toInt → (((0 : Int) ≤ 0 ∧ 0 < (qN U2 (qO U2 52 15) : Int)) ∧ (∀ S4, S4 = wI U2 (qO U2 52 15) 0 (0 : Int32) → qT U2 (qO U2 52 15) = 212 → wfC S4 → (∃ n, w_X3_findReached_L42 Q n S4 1 0)))) ∧ (¬ (qI U2 52 1).toInt ≤ v2_1.toInt → ((v2_1.toInt = 0 → w_X3_findReached_J24 Q (w_X3_findReached_L2 Q n2) U2 1 v2_1 (qO U2 52 8) v2_1) ∧ (¬ v2_1.toInt = 0 → w_X3_findReached_J24 Q (w_X3_findReached_L2 Q n2) U2 0 v2_1 (qO U2 52 8) v2_1)))))
def wX3_findReached (S : MS) (Q : MS → Prop) : Prop := (∃ n, w_X3_findReached_L2 Q n S 0)
set_option maxHeartbeats 2000000 in
set_option maxRecDepth 100000 in
theorem rX3_findReached (l : Launch) (g : Gr) (ad : Nat → Nat) (sz : Nat) (S : MS) (hw : wfC S) (Q : MS → Prop) (h : wX3_findReached S Q) : Met l yX3_findReached (wt yX3_findReached cX3_findReached 5 none) ({ frames := 0, cells := 0, slots := 0, locals := 0 }) (va_Pc [.ref (ad 52)] (st_C g ad sz S)) (va_Qv (fun (u : MS) => Q u ∧ wfC u ∧ shy S u) (fun (u : MS) (t : State) => qEC g ad (va_A (WdC g ad S) sz) u t) (va_A (WdC g ad S) sz)) 0 0 (va_A (WdC g ad S) sz) := by
  refine Met.ofW (cc := cX3_findReached) (maxL := 5) (ret := none) (by decide) rfl ?_
  intro p e s m args below meth c s₁ B hml hv
  obtain ⟨rfl, hsz, hP, hK, hD0, hex, hE⟩ := hv
  have hx := B.exec
  have hb := B.bytes
  have hr := B.returns
  have hts0 := atoms_spec (ws := wt yX3_findReached cX3_findReached 5 none) B.pre
  have hts : ∀ w ∈ tb, w.before _ s = true := fun w h => hts0 w (List.mem_cons_of_mem _ h)
  have hown : s.vm.findClass RX3 = some m.cls := findClass_of_methodNamed B.named
  subst hsz
  have hD := hD0.self (sz := s.heap.size)
  generalize hAe : va_A (WdC g ad S) s.heap.size = A at hD hE ⊢
  have hA : ∀ q : Nat, s.heap.size ≤ q → A q := fun q h => by rw [← hAe]; exact Or.inr h
  have hR : RepC g ad A s S s.heap [] := ⟨hK, hP, hD, va_S.rf, hw⟩
  clear hK hP hD hD0
  have hl := lv_entry ([.ref (ad 52)]) (n := 5) (Nat.le_of_ble_eq_true rfl)
  rw [lg_entry_eq]
  generalize (lg_sl ([.ref (ad 52)]) ++ List.replicate (5 - (lg_sl ([.ref (ad 52)])).length) Slot.unset).toArray = ls at hl ⊢
  have hl : lv_has ls 5 [(0, .ref (ad 52))] := hl
  have hsh : shy S S := shy.rf
  unfold wX3_findReached at h
  refine lv_iconst (v := 0) hx hb dX3_findReached_0 (by decide) ?_
  refine lv_istore_n (lv' := [(1, .int 0), (0, .ref (ad 52))]) hx hb dX3_findReached_1 rfl hl (by decide) rfl (fun ls hl => ?_)
  have J_2 : ∀ (n2 : Nat) (U2 : MS) (v2_1 : Int32) (H : Heap) (locs : List Loc) (ls : Array Slot), w_X3_findReached_L2 Q n2 U2 v2_1 → shy S U2 → RepC g ad A s U2 H locs → lv_has ls 5 [(0, .ref (ad 52)), (1, .int v2_1)] → W p l e (headSpec (wt yX3_findReached cX3_findReached 5 none) ({ frames := 0, cells := 0, slots := 0, locals := 0 })).room s m ([.ref (ad 52)] : List Value).toArray below meth c H locs 0 0 (MQ below (va_Qv (fun (u : MS) => Q u ∧ wfC u ∧ shy S u) (fun (u : MS) (t : State) => qEC g ad A u t) A) ([.ref (ad 52)] : List Value).toArray s 0 0 A) (F0 m 2 ls []) := by
    intro n2
    induction n2 with
    | zero => intro U2 v2_1 H locs ls h hsh hR hl; unfold w_X3_findReached_L2 at h; exact h.elim
    | succ n2 ih_2 =>
      intro U2 v2_1 H locs ls h hsh hR hl
      unfold w_X3_findReached_L2 at h
      replace h := h hR.w
      refine lv_iload_n hx hb dX3_findReached_2 rfl (lv_at hl 1 rfl) ?_
      refine lv_aload_n hx hb dX3_findReached_3 rfl (lv_at hl 0 rfl) ?_
      refine va_get (D := rD g) (ci := 3) (v := .int (qI U2 52 1)) (C := RX3) (T := TX3) (N := 16) hx hb hts inX3 hown hR.K hR.P 52 (hR.at43 (hR.w.2.1 _ finC_30).2.1) rfl 1 (by decide) (hts _ kw_851) (fun _ h9 => h9) rfl dX3_findReached_4 ?_
      refine lv_icmp_ge (tgt := 31) hx hb dX3_findReached_7 (by decide) (fun c1 => ?_) (fun c1 => ?_)
      · replace h := h.1 (k_le rfl rfl c1)
        refine lv_aload_n hx hb dX3_findReached_31 rfl (lv_at hl 0 rfl) ?_
        have hT_b2 : qT U2 (qO U2 52 15) = 212 := hR.w.ref (hR.w.ptr ptrC_34) (hR.w.2.1 _ finC_30).2.1
        refine va_get (D := rD g) (ci := 3) (v := .ref (ad (qO U2 52 15))) (C := RX3) (T := TX3) (N := 16) hx hb hts inX3 hown hR.K hR.P 52 (hR.at43 (hR.w.2.1 _ finC_30).2.1) rfl 15 (by decide) (hts _ kw_852) (fun _ h9 => h9) (congrArg (fun z => some (vf ad z)) (hR.w.ptr ptrC_34)) dX3_findReached_32 ?_
        refine lv_iconst (v := 0) hx hb dX3_findReached_35 (by decide) ?_
        refine lv_iconst (v := 0) hx hb dX3_findReached_36 (by decide) ?_
        obtain ⟨hv3, h⟩ := h
        refine va_iast hx hb hR.K hR.P hR.D hR.sS (qO U2 52 15) 1 (hR.atI hT_b2 (by decide)) rfl (k_ix (x := (0 : Int32)) (a := 0) (by decide) hv3) dX3_findReached_37 (fun H locs hP hD hS => ?_)
        have hTk9 : qT U2 (qO U2 52 15) = 212 := hT_b2
        have hR : RepC g ad A s (wI U2 (qO U2 52 15) 0 (0 : Int32)) H locs := hR.aI hT_b2 (by decide) hP hD hS
        obtain ⟨S4, eS4⟩ : ∃ z, z = wI U2 (qO U2 52 15) 0 (0 : Int32) := ⟨_, rfl⟩
        rw [← eS4] at hR
        replace h := h S4 eS4 hTk9 hR.w
        have hsh : shy S S4 := by rw [eS4]; exact hsh
        refine lv_iconst (v := 1) hx hb dX3_findReached_38 (by decide) ?_
        refine lv_istore_n (lv' := [(1, .int 1), (0, .ref (ad 52))]) hx hb dX3_findReached_39 rfl hl (by decide) rfl (fun ls hl => ?_)
        refine lv_iconst (v := 0) hx hb dX3_findReached_40 (by decide) ?_
        refine lv_istore_n (lv' := [(2, .int 0), (1, .int 1), (0, .ref (ad 52))]) hx hb dX3_findReached_41 rfl hl (by decide) rfl (fun ls hl => ?_)
        have J_42 : ∀ (n42 : Nat) (U42 : MS) (v42_1 : Int32) (v42_2 : Int32) (H : Heap) (locs : List Loc) (ls : Array Slot), w_X3_findReached_L42 Q n42 U42 v42_1 v42_2 → shy S U42 → RepC g ad A s U42 H locs → lv_has ls 5 [(0, .ref (ad 52)), (1, .int v42_1), (2, .int v42_2)] → W p l e (headSpec (wt yX3_findReached cX3_findReached 5 none) ({ frames := 0, cells := 0, slots := 0, locals := 0 })).room s m ([.ref (ad 52)] : List Value).toArray below meth c H locs 0 0 (MQ below (va_Qv (fun (u : MS) => Q u ∧ wfC u ∧ shy S u) (fun (u : MS) (t : State) => qEC g ad A u t) A) ([.ref (ad 52)] : List Value).toArray s 0 0 A) (F0 m 42 ls []) := by
          intro n42
          induction n42 with
          | zero => intro U42 v42_1 v42_2 H locs ls h hsh hR hl; unfold w_X3_findReached_L42 at h; exact h.elim
          | succ n42 ih_42 =>
            intro U42 v42_1 v42_2 H locs ls h hsh hR hl
            unfold w_X3_findReached_L42 at h
            replace h := h hR.w
            refine lv_iload_n hx hb dX3_findReached_42 rfl (lv_at hl 1 rfl) ?_
            refine lv_if_le (tgt := 141) hx hb dX3_findReached_43 (by decide) (fun c5 => ?_) (fun c5 => ?_)
            · replace h := h.1 (k_le rfl (by decide) c5)
              exact W.vret hx hb hr (fun t9 ht9 hW9 => ⟨⟨U42, rfl, ⟨h, hR.w, hsh⟩, ⟨by rw [ht9]; exact hR.P, hR.D⟩⟩, hR.sS.F ht9⟩) hR.sS.2.2 dX3_findReached_141
            · replace h := h.2 (k_nle rfl (by decide) c5)
              refine lv_iload_n hx hb dX3_findReached_46 rfl (lv_at hl 2 rfl) ?_
              refine lv_aload_n hx hb dX3_findReached_47 rfl (lv_at hl 0 rfl) ?_
              refine va_get (D := rD g) (ci := 3) (v := .int (qI U42 52 1)) (C := RX3) (T := TX3) (N := 16) hx hb hts inX3 hown hR.K hR.P 52 (hR.at43 (hR.w.2.1 _ finC_30).2.1) rfl 1 (by decide) (hts _ kw_851) (fun _ h9 => h9) rfl dX3_findReached_48 ?_
              refine lv_icmp_ge (tgt := 141) hx hb dX3_findReached_51 (by decide) (fun c6 => ?_) (fun c6 => ?_)
              · replace h := h.1 (k_le rfl rfl c6)
                exact W.vret hx hb hr (fun t9 ht9 hW9 => ⟨⟨U42, rfl, ⟨h, hR.w, hsh⟩, ⟨by rw [ht9]; exact hR.P, hR.D⟩⟩, hR.sS.F ht9⟩) hR.sS.2.2 dX3_findReached_141
              · replace h := h.2 (k_nle rfl rfl c6)
                obtain ⟨a7, ea7⟩ : ∃ z, z = (v42_1 + Int32.ofInt (-1)) := ⟨_, rfl⟩
                replace h := h a7 ea7
                refine lv_iinc (v := a7) (lv' := [(1, .int a7), (0, .ref (ad 52)), (2, .int v42_2)]) hx hb dX3_findReached_54 hl (k := 1) rfl ea7.symm (by decide) rfl (fun ls hl => ?_)
                refine lv_aload_n hx hb dX3_findReached_57 rfl (lv_at hl 1 rfl) ?_
                have hT_b8 : qT U42 (qO U42 52 15) = 212 := hR.w.ref (hR.w.ptr ptrC_34) (hR.w.2.1 _ finC_30).2.1
                refine va_get (D := rD g) (ci := 3) (v := .ref (ad (qO U42 52 15))) (C := RX3) (T := TX3) (N := 16) hx hb hts inX3 hown hR.K hR.P 52 (hR.at43 (hR.w.2.1 _ finC_30).2.1) rfl 15 (by decide) (hts _ kw_852) (fun _ h9 => h9) (congrArg (fun z => some (vf ad z)) (hR.w.ptr ptrC_34)) dX3_findReached_58 ?_
                refine lv_iload_n hx hb dX3_findReached_61 rfl (lv_at hl 0 rfl) ?_
                obtain ⟨hv9, h⟩ := h
                refine va_iald hx hb hR.K hR.P (qO U42 52 15) 1 (hR.atI hT_b8 (by decide)) rfl (k_ix (x := a7) (a := a7.toInt) rfl hv9) dX3_findReached_62 ?_
                refine lv_topi (fun z10 ez10 => ?_)
                obtain rfl : z10 = (qI U42 (qO U42 52 15) a7.toInt.toNat) := ez10
                obtain ⟨a11, ea11⟩ : ∃ z, z = (qI U42 (qO U42 52 15) a7.toInt.toNat) := ⟨_, rfl⟩
                rw [← ea11]
                replace h := h a11 ea11
                refine lv_istore_n (lv' := [(3, .int a11), (1, .int a7), (0, .ref (ad 52)), (2, .int v42_2)]) hx hb dX3_findReached_63 rfl hl (by decide) rfl (fun ls hl => ?_)
                refine lv_aload_n hx hb dX3_findReached_64 rfl (lv_at hl 2 rfl) ?_
                have hT_b12 : qT U42 (qO U42 52 4) = 204 := hR.w.ref (hR.w.ptr ptrC_24) (hR.w.2.1 _ finC_30).2.1
                refine va_get (D := rD g) (ci := 3) (v := .ref (ad (qO U42 52 4))) (C := RX3) (T := TX3) (N := 16) hx hb hts inX3 hown hR.K hR.P 52 (hR.at43 (hR.w.2.1 _ finC_30).2.1) rfl 4 (by decide) (hts _ kw_885) (fun _ h9 => h9) (congrArg (fun z => some (vf ad z)) (hR.w.ptr ptrC_24)) dX3_findReached_65 ?_
                refine lv_iload_n hx hb dX3_findReached_68 rfl (lv_at hl 0 rfl) ?_
                obtain ⟨hv13, h⟩ := h
                refine va_iald hx hb hR.K hR.P (qO U42 52 4) 1 (hR.atI hT_b12 (by decide)) rfl (k_ix (x := a11) (a := a11.toInt) rfl hv13) dX3_findReached_69 ?_
                refine lv_topi (fun z14 ez14 => ?_)
                obtain rfl : z14 = (qI U42 (qO U42 52 4) a11.toInt.toNat) := ez14
                obtain ⟨a15, ea15⟩ : ∃ z, z = (qI U42 (qO U42 52 4) a11.toInt.toNat) := ⟨_, rfl⟩
                rw [← ea15]
                replace h := h a15 ea15
                refine lv_istore (lv' := [(4, .int a15), (3, .int a11), (1, .int a7), (0, .ref (ad 52)), (2, .int v42_2)]) hx hb dX3_findReached_70 hl (by decide) rfl (fun ls hl => ?_)
                have J_72 : ∀ (n72 : Nat) (U72 : MS) (v72_1 : Int32) (v72_2 : Int32) (v72_3 : Int32) (v72_4 : Int32) (H : Heap) (locs : List Loc) (ls : Array Slot), w_X3_findReached_L72 Q (w_X3_findReached_L42 Q n42) n72 U72 v72_1 v72_2 v72_3 v72_4 → shy S U72 → RepC g ad A s U72 H locs → lv_has ls 5 [(0, .ref (ad 52)), (1, .int v72_1), (2, .int v72_2), (3, .int v72_3), (4, .int v72_4)] → W p l e (headSpec (wt yX3_findReached cX3_findReached 5 none) ({ frames := 0, cells := 0, slots := 0, locals := 0 })).room s m ([.ref (ad 52)] : List Value).toArray below meth c H locs 0 0 (MQ below (va_Qv (fun (u : MS) => Q u ∧ wfC u ∧ shy S u) (fun (u : MS) (t : State) => qEC g ad A u t) A) ([.ref (ad 52)] : List Value).toArray s 0 0 A) (F0 m 72 ls []) := by
                  intro n72
                  induction n72 with
                  | zero => intro U72 v72_1 v72_2 v72_3 v72_4 H locs ls h hsh hR hl; unfold w_X3_findReached_L72 at h; exact h.elim
                  | succ n72 ih_72 =>
                    intro U72 v72_1 v72_2 v72_3 v72_4 H locs ls h hsh hR hl
                    unfold w_X3_findReached_L72 at h
                    replace h := h hR.w
                    refine lv_iload hx hb dX3_findReached_72 (lv_at hl 4 rfl) ?_
                    refine lv_aload_n hx hb dX3_findReached_74 rfl (lv_at hl 0 rfl) ?_
                    have hT_b16 : qT U72 (qO U72 52 4) = 204 := hR.w.ref (hR.w.ptr ptrC_24) (hR.w.2.1 _ finC_30).2.1
                    refine va_get (D := rD g) (ci := 3) (v := .ref (ad (qO U72 52 4))) (C := RX3) (T := TX3) (N := 16) hx hb hts inX3 hown hR.K hR.P 52 (hR.at43 (hR.w.2.1 _ finC_30).2.1) rfl 4 (by decide) (hts _ kw_885) (fun _ h9 => h9) (congrArg (fun z => some (vf ad z)) (hR.w.ptr ptrC_24)) dX3_findReached_75 ?_
                    refine lv_iload_n hx hb dX3_findReached_78 rfl (lv_at hl 3 rfl) ?_
                    refine lv_iconst (v := 1) hx hb dX3_findReached_79 (by decide) ?_
                    refine lv_iadd hx hb dX3_findReached_80 ?_
                    refine lv_topi (fun z17 ez17 => ?_)
                    obtain rfl : z17 = (v72_3 + (1 : Int32)) := ez17
                    obtain ⟨hv18, h⟩ := h
                    refine va_iald hx hb hR.K hR.P (qO U72 52 4) 1 (hR.atI hT_b16 (by decide)) rfl (k_ix (x := (v72_3 + (1 : Int32))) (a := (v72_3 + (1 : Int32)).toInt) rfl hv18) dX3_findReached_81 ?_
                    refine lv_topi (fun z19 ez19 => ?_)
                    obtain rfl : z19 = (qI U72 (qO U72 52 4) (((v72_3 + (1 : Int32)).toInt).toNat)) := ez19
                    refine lv_icmp_ge (tgt := 135) hx hb dX3_findReached_82 (by decide) (fun c20 => ?_) (fun c20 => ?_)
                    · replace h := h.1 (k_le rfl rfl c20)
                      obtain ⟨a21, ea21⟩ : ∃ z, z = (v72_2 + Int32.ofInt 1) := ⟨_, rfl⟩
                      replace h := h a21 ea21
                      refine lv_iinc (v := a21) (lv' := [(2, .int a21), (0, .ref (ad 52)), (1, .int v72_1), (3, .int v72_3), (4, .int v72_4)]) hx hb dX3_findReached_135 hl (k := 2) rfl ea21.symm (by decide) rfl (fun ls hl => ?_)
                      refine lv_goto (tgt := 42) hx hb dX3_findReached_138 (by decide) ?_
                      exact ih_42 U72 v72_1 a21 _ _ ls h  hsh hR (lv_sub hl [1, 2, 0] rfl)
                    · replace h := h.2 (k_nle rfl rfl c20)
                      refine lv_aload_n hx hb dX3_findReached_85 rfl (lv_at hl 0 rfl) ?_
                      have hT_b22 : qT U72 (qO U72 52 8) = 303 := hR.w.ref (hR.w.ptr ptrC_28) (hR.w.2.1 _ finC_30).2.1
                      refine va_get (D := rD g) (ci := 3) (v := .ref (ad (qO U72 52 8))) (C := RX3) (T := TX3) (N := 16) hx hb hts inX3 hown hR.K hR.P 52 (hR.at43 (hR.w.2.1 _ finC_30).2.1) rfl 8 (by decide) (hts _ kw_847) (fun _ h9 => h9) (congrArg (fun z => some (vf ad z)) (hR.w.ptr ptrC_28)) dX3_findReached_86 ?_
                      refine lv_aload_n hx hb dX3_findReached_89 rfl (lv_at hl 0 rfl) ?_
                      have hT_b23 : qT U72 (qO U72 52 5) = 205 := hR.w.ref (hR.w.ptr ptrC_25) (hR.w.2.1 _ finC_30).2.1
                      refine va_get (D := rD g) (ci := 3) (v := .ref (ad (qO U72 52 5))) (C := RX3) (T := TX3) (N := 16) hx hb hts inX3 hown hR.K hR.P 52 (hR.at43 (hR.w.2.1 _ finC_30).2.1) rfl 5 (by decide) (hts _ kw_840) (fun _ h9 => h9) (congrArg (fun z => some (vf ad z)) (hR.w.ptr ptrC_25)) dX3_findReached_90 ?_
                      refine lv_iload hx hb dX3_findReached_93 (lv_at hl 4 rfl) ?_
                      obtain ⟨hv24, h⟩ := h
                      refine va_iald hx hb hR.K hR.P (qO U72 52 5) 1 (hR.atI hT_b23 (by decide)) rfl (k_ix (x := v72_4) (a := v72_4.toInt) rfl hv24) dX3_findReached_95 ?_
                      refine lv_topi (fun z25 ez25 => ?_)
                      obtain rfl : z25 = (qI U72 (qO U72 52 5) v72_4.toInt.toNat) := ez25
                      obtain ⟨hv26, h⟩ := h
                      refine va_zald hx hb hR.K hR.P (qO U72 52 8) 2 (hR.atZ hT_b22 (by decide)) rfl (k_ix (x := (qI U72 (qO U72 52 5) v72_4.toInt.toNat)) (a := (qI U72 (qO U72 52 5) v72_4.toInt.toNat).toInt) rfl hv26) dX3_findReached_96 ?_
                      refine lv_topi (fun z27 ez27 => ?_)
                      obtain rfl : z27 = (qI U72 (qO U72 52 8) (((qI U72 (qO U72 52 5) v72_4.toInt.toNat).toInt).toNat)) := ez27
                      have hz28 := hR.w.bit3 (b := (qO U72 52 8)) (j := ((qI U72 (qO U72 52 5) v72_4.toInt.toNat).toInt).toNat) (hT_b22) (by decide)
                      have J_129 : ∀ (U129 : MS) (v129_1 : Int32) (v129_2 : Int32) (v129_3 : Int32) (v129_4 : Int32) (H : Heap) (locs : List Loc) (ls : Array Slot), w_X3_findReached_J129 Q (w_X3_findReached_L72 Q (w_X3_findReached_L42 Q n42) n72) U129 v129_1 v129_2 v129_3 v129_4 → shy S U129 → RepC g ad A s U129 H locs → lv_has ls 5 [(0, .ref (ad 52)), (1, .int v129_1), (2, .int v129_2), (3, .int v129_3), (4, .int v129_4)] → W p l e (headSpec (wt yX3_findReached cX3_findReached 5 none) ({ frames := 0, cells := 0, slots := 0, locals := 0 })).room s m ([.ref (ad 52)] : List Value).toArray below meth c H locs 0 0 (MQ below (va_Qv (fun (u : MS) => Q u ∧ wfC u ∧ shy S u) (fun (u : MS) (t : State) => qEC g ad A u t) A) ([.ref (ad 52)] : List Value).toArray s 0 0 A) (F0 m 129 ls []) := by
                        intro U129 v129_1 v129_2 v129_3 v129_4 H locs ls h hsh hR hl
                        unfold w_X3_findReached_J129 at h
                        replace h := h hR.w
                        obtain ⟨a29, ea29⟩ : ∃ z, z = (v129_4 + Int32.ofInt 1) := ⟨_, rfl⟩
                        replace h := h a29 ea29
                        refine lv_iinc (v := a29) (lv' := [(4, .int a29), (0, .ref (ad 52)), (1, .int v129_1), (2, .int v129_2), (3, .int v129_3)]) hx hb dX3_findReached_129 hl (k := 4) rfl ea29.symm (by decide) rfl (fun ls hl => ?_)
                        refine lv_goto (tgt := 72) hx hb dX3_findReached_132 (by decide) ?_
                        exact ih_72 U129 v129_1 v129_2 v129_3 a29 _ _ ls h  hsh hR (lv_sub hl [1, 2, 3, 4, 0] rfl)
                      refine lv_if_ne (tgt := 129) hx hb dX3_findReached_97 (by decide) (fun c30 => ?_) (fun c30 => ?_)
                      · replace h := h.2 (k_ne rfl (by decide) c30)
                        exact J_129 U72 v72_1 v72_2 v72_3 v72_4 _ _ ls h  hsh hR (lv_sub hl [0, 1, 2, 3, 4] rfl)
                      · replace h := h.1 (k_eq rfl (by decide) c30)
                        refine lv_aload_n hx hb dX3_findReached_100 rfl (lv_at hl 0 rfl) ?_
                        have hT_b31 : qT U72 (qO U72 52 8) = 303 := hR.w.ref (hR.w.ptr ptrC_28) (hR.w.2.1 _ finC_30).2.1
                        refine va_get (D := rD g) (ci := 3) (v := .ref (ad (qO U72 52 8))) (C := RX3) (T := TX3) (N := 16) hx hb hts inX3 hown hR.K hR.P 52 (hR.at43 (hR.w.2.1 _ finC_30).2.1) rfl 8 (by decide) (hts _ kw_847) (fun _ h9 => h9) (congrArg (fun z => some (vf ad z)) (hR.w.ptr ptrC_28)) dX3_findReached_101 ?_
                        refine lv_aload_n hx hb dX3_findReached_104 rfl (lv_at hl 0 rfl) ?_
                        have hT_b32 : qT U72 (qO U72 52 5) = 205 := hR.w.ref (hR.w.ptr ptrC_25) (hR.w.2.1 _ finC_30).2.1
                        refine va_get (D := rD g) (ci := 3) (v := .ref (ad (qO U72 52 5))) (C := RX3) (T := TX3) (N := 16) hx hb hts inX3 hown hR.K hR.P 52 (hR.at43 (hR.w.2.1 _ finC_30).2.1) rfl 5 (by decide) (hts _ kw_840) (fun _ h9 => h9) (congrArg (fun z => some (vf ad z)) (hR.w.ptr ptrC_25)) dX3_findReached_105 ?_
                        refine lv_iload hx hb dX3_findReached_108 (lv_at hl 4 rfl) ?_
                        obtain ⟨hv33, h⟩ := h
                        refine va_iald hx hb hR.K hR.P (qO U72 52 5) 1 (hR.atI hT_b32 (by decide)) rfl (k_ix (x := v72_4) (a := v72_4.toInt) rfl hv33) dX3_findReached_110 ?_
                        refine lv_topi (fun z34 ez34 => ?_)
                        obtain rfl : z34 = (qI U72 (qO U72 52 5) v72_4.toInt.toNat) := ez34
                        refine lv_iconst (v := 1) hx hb dX3_findReached_111 (by decide) ?_
                        obtain ⟨hv35, h⟩ := h
                        refine va_zast hx hb hR.K hR.P hR.D hR.sS (qO U72 52 8) 2 (hR.atZ hT_b31 (by decide)) rfl (k_ix (x := (qI U72 (qO U72 52 5) v72_4.toInt.toNat)) (a := (qI U72 (qO U72 52 5) v72_4.toInt.toNat).toInt) rfl hv35) dX3_findReached_112 (fun H locs hP hD hS => ?_)
                        have hTk9 : qT U72 (qO U72 52 8) = 303 := hT_b31
                        have hR : RepC g ad A s (wI U72 (qO U72 52 8) (((qI U72 (qO U72 52 5) v72_4.toInt.toNat).toInt).toNat) (vp_nar .boolean (1 : Int32))) H locs := hR.aZ hT_b31 (by decide) (bit_nz2 (Or.inr rfl)) hP hD hS
                        obtain ⟨S36, eS36⟩ : ∃ z, z = wI U72 (qO U72 52 8) (((qI U72 (qO U72 52 5) v72_4.toInt.toNat).toInt).toNat) (vp_nar .boolean (1 : Int32)) := ⟨_, rfl⟩
                        rw [← eS36] at hR
                        replace h := h S36 eS36 hTk9 hR.w
                        have hsh : shy S S36 := by rw [eS36]; exact hsh
                        refine lv_aload_n hx hb dX3_findReached_113 rfl (lv_at hl 0 rfl) ?_
                        have hT_b37 : qT S36 (qO S36 52 15) = 212 := hR.w.ref (hR.w.ptr ptrC_34) (hR.w.2.1 _ finC_30).2.1
                        refine va_get (D := rD g) (ci := 3) (v := .ref (ad (qO S36 52 15))) (C := RX3) (T := TX3) (N := 16) hx hb hts inX3 hown hR.K hR.P 52 (hR.at43 (hR.w.2.1 _ finC_30).2.1) rfl 15 (by decide) (hts _ kw_852) (fun _ h9 => h9) (congrArg (fun z => some (vf ad z)) (hR.w.ptr ptrC_34)) dX3_findReached_114 ?_
                        refine lv_iload_n hx hb dX3_findReached_117 rfl (lv_at hl 1 rfl) ?_
                        refine lv_aload_n hx hb dX3_findReached_118 rfl (lv_at hl 0 rfl) ?_
                        have hT_b38 : qT S36 (qO S36 52 5) = 205 := hR.w.ref (hR.w.ptr ptrC_25) (hR.w.2.1 _ finC_30).2.1
                        refine va_get (D := rD g) (ci := 3) (v := .ref (ad (qO S36 52 5))) (C := RX3) (T := TX3) (N := 16) hx hb hts inX3 hown hR.K hR.P 52 (hR.at43 (hR.w.2.1 _ finC_30).2.1) rfl 5 (by decide) (hts _ kw_840) (fun _ h9 => h9) (congrArg (fun z => some (vf ad z)) (hR.w.ptr ptrC_25)) dX3_findReached_119 ?_
                        refine lv_iload hx hb dX3_findReached_122 (lv_at hl 4 rfl) ?_
                        obtain ⟨hv39, h⟩ := h
                        refine va_iald hx hb hR.K hR.P (qO S36 52 5) 1 (hR.atI hT_b38 (by decide)) rfl (k_ix (x := v72_4) (a := v72_4.toInt) rfl hv39) dX3_findReached_124 ?_
                        refine lv_topi (fun z40 ez40 => ?_)
                        obtain rfl : z40 = (qI S36 (qO S36 52 5) v72_4.toInt.toNat) := ez40
                        obtain ⟨hv41, h⟩ := h
                        refine va_iast hx hb hR.K hR.P hR.D hR.sS (qO S36 52 15) 1 (hR.atI hT_b37 (by decide)) rfl (k_ix (x := v72_1) (a := v72_1.toInt) rfl hv41) dX3_findReached_125 (fun H locs hP hD hS => ?_)
                        have hTk9 : qT S36 (qO S36 52 15) = 212 := hT_b37
                        have hR : RepC g ad A s (wI S36 (qO S36 52 15) v72_1.toInt.toNat (qI S36 (qO S36 52 5) v72_4.toInt.toNat)) H locs := hR.aI hT_b37 (by decide) hP hD hS
                        obtain ⟨S42, eS42⟩ : ∃ z, z = wI S36 (qO S36 52 15) v72_1.toInt.toNat (qI S36 (qO S36 52 5) v72_4.toInt.toNat) := ⟨_, rfl⟩
                        rw [← eS42] at hR
                        replace h := h S42 eS42 hTk9 hR.w
                        have hsh : shy S S42 := by rw [eS42]; exact hsh
                        obtain ⟨a43, ea43⟩ : ∃ z, z = (v72_1 + Int32.ofInt 1) := ⟨_, rfl⟩
                        replace h := h a43 ea43
                        refine lv_iinc (v := a43) (lv' := [(1, .int a43), (0, .ref (ad 52)), (2, .int v72_2), (3, .int v72_3), (4, .int v72_4)]) hx hb dX3_findReached_126 hl (k := 1) rfl ea43.symm (by decide) rfl (fun ls hl => ?_)
                        exact J_129 S42 a43 v72_2 v72_3 v72_4 _ _ ls h  hsh hR (lv_sub hl [1, 0, 2, 3, 4] rfl)
                obtain ⟨n9, h⟩ := h
                exact J_72 n9 U42 a7 v42_2 a11 a15 _ _ ls h  hsh hR (lv_sub hl [3, 2, 4, 1, 0] rfl)
        obtain ⟨n9, h⟩ := h
        exact J_42 n9 S4 1 0 _ _ ls h  hsh hR (lv_sub hl [2, 1, 0] rfl)
      · replace h := h.2 (k_nle rfl rfl c1)
        refine lv_aload_n hx hb dX3_findReached_10 rfl (lv_at hl 0 rfl) ?_
        have hT_b44 : qT U2 (qO U2 52 8) = 303 := hR.w.ref (hR.w.ptr ptrC_28) (hR.w.2.1 _ finC_30).2.1
        refine va_get (D := rD g) (ci := 3) (v := .ref (ad (qO U2 52 8))) (C := RX3) (T := TX3) (N := 16) hx hb hts inX3 hown hR.K hR.P 52 (hR.at43 (hR.w.2.1 _ finC_30).2.1) rfl 8 (by decide) (hts _ kw_847) (fun _ h9 => h9) (congrArg (fun z => some (vf ad z)) (hR.w.ptr ptrC_28)) dX3_findReached_11 ?_
        refine lv_iload_n hx hb dX3_findReached_14 rfl (lv_at hl 1 rfl) ?_
        refine lv_iload_n hx hb dX3_findReached_15 rfl (lv_at hl 1 rfl) ?_
        have J_24 : ∀ (U24 : MS) (t24_0 : Int32) (t24_1 : Int32) (t24_2 : Nat) (v24_1 : Int32) (H : Heap) (locs : List Loc) (ls : Array Slot), w_X3_findReached_J24 Q (w_X3_findReached_L2 Q n2) U24 t24_0 t24_1 t24_2 v24_1 → qT U24 t24_2 = 303 → (t24_0 = 0 ∨ t24_0 = 1) → shy S U24 → RepC g ad A s U24 H locs → lv_has ls 5 [(0, .ref (ad 52)), (1, .int v24_1)] → W p l e (headSpec (wt yX3_findReached cX3_findReached 5 none) ({ frames := 0, cells := 0, slots := 0, locals := 0 })).room s m ([.ref (ad 52)] : List Value).toArray below meth c H locs 0 0 (MQ below (va_Qv (fun (u : MS) => Q u ∧ wfC u ∧ shy S u) (fun (u : MS) (t : State) => qEC g ad A u t) A) ([.ref (ad 52)] : List Value).toArray s 0 0 A) (F0 m 24 ls [.int t24_0, .int t24_1, .ref (ad t24_2)]) := by
          intro U24 t24_0 t24_1 t24_2 v24_1 H locs ls h hT_t24_2 hz_t24_0 hsh hR hl
          unfold w_X3_findReached_J24 at h
          replace h := h hR.w hT_t24_2 hz_t24_0
          obtain ⟨hv45, h⟩ := h
          refine va_zast hx hb hR.K hR.P hR.D hR.sS t24_2 2 (hR.atZ hT_t24_2 (by decide)) rfl (k_ix (x := t24_1) (a := t24_1.toInt) rfl hv45) dX3_findReached_24 (fun H locs hP hD hS => ?_)
          have hTk9 : qT U24 t24_2 = 303 := hT_t24_2
          have hR : RepC g ad A s (wI U24 t24_2 t24_1.toInt.toNat (vp_nar .boolean t24_0)) H locs := hR.aZ hT_t24_2 (by decide) (bit_nz2 hz_t24_0) hP hD hS
          obtain ⟨S46, eS46⟩ : ∃ z, z = wI U24 t24_2 t24_1.toInt.toNat (vp_nar .boolean t24_0) := ⟨_, rfl⟩
          rw [← eS46] at hR
          replace h := h S46 eS46 hTk9 hR.w
          have hsh : shy S S46 := by rw [eS46]; exact hsh
          obtain ⟨a47, ea47⟩ : ∃ z, z = (v24_1 + Int32.ofInt 1) := ⟨_, rfl⟩
          replace h := h a47 ea47
          refine lv_iinc (v := a47) (lv' := [(1, .int a47), (0, .ref (ad 52))]) hx hb dX3_findReached_25 hl (k := 1) rfl ea47.symm (by decide) rfl (fun ls hl => ?_)
          refine lv_goto (tgt := 2) hx hb dX3_findReached_28 (by decide) ?_
          exact ih_2 S46 a47 _ _ ls h  hsh hR (lv_sub hl [1, 0] rfl)
        refine lv_if_ne (tgt := 23) hx hb dX3_findReached_16 (by decide) (fun c48 => ?_) (fun c48 => ?_)
        · replace h := h.2 (k_ne rfl (by decide) c48)
          refine lv_iconst (v := 0) hx hb dX3_findReached_23 (by decide) ?_
          exact J_24 U2 0 v2_1 (qO U2 52 8) v2_1 _ _ ls h hT_b44 (Or.inl rfl) hsh hR (lv_sub hl [0, 1] rfl)
        · replace h := h.1 (k_eq rfl (by decide) c48)
          refine lv_iconst (v := 1) hx hb dX3_findReached_19 (by decide) ?_
          refine lv_goto (tgt := 24) hx hb dX3_findReached_20 (by decide) ?_
          exact J_24 U2 1 v2_1 (qO U2 52 8) v2_1 _ _ ls h hT_b44 (Or.inr rfl) hsh hR (lv_sub hl [0, 1] rfl)
  obtain ⟨n9, h⟩ := h
  exact J_2 n9 S 0 _ _ ls h  hsh hR (lv_sub hl [1, 0] rfl)
def fX3_dominates (S : MS) (x1 : Int32) (x2 : Int32) : Int32 := (if (lg_cmp ((((qJ S (qO S 52 9) ((((x2 * (qI S 52 10)) + (x1 >>> ((6 : Int32) &&& 31))).toInt).toNat)).toUInt64 >>> ((x1 &&& (63 : Int32)).toInt64.toUInt64 &&& Int64.toUInt64 63)).toInt64) &&& (1 : Int64)) 0).toInt = 0 then (0 : Int32) else (1 : Int32))
def d_X3_dominates (S : MS) (x1 : Int32) (x2 : Int32) : Prop := (((0 : Int) ≤ ((x2 * (qI S 52 10)) + (x1 >>> ((6 : Int32) &&& 31))).toInt ∧ ((x2 * (qI S 52 10)) + (x1 >>> ((6 : Int32) &&& 31))).toInt < (qN S (qO S 52 9) : Int)) ∧ True)
set_option maxHeartbeats 2000000 in
set_option maxRecDepth 100000 in
theorem rX3_dominates (l : Launch) (g : Gr) (ad : Nat → Nat) (sz : Nat) (S : MS) (x1 : Int32) (x2 : Int32) (hw : wfC S) (hd : d_X3_dominates S x1 x2) : Met l yX3_dominates (wt yX3_dominates cX3_dominates 3 (some .boolean)) ({ frames := 0, cells := 0, slots := 0, locals := 0 }) (va_Pc [.ref (ad 52), .int x1, .int x2] (st_C g ad sz S)) (va_Qi (fun (r : Int32) (_ : Unit) => r = fX3_dominates S x1 x2 ∧ (r = 0 ∨ r = 1)) (fun (_ : Unit) (t : State) => qEC g ad (va_A (WdC g ad S) sz) S t) (va_A (WdC g ad S) sz)) 0 0 (va_A (WdC g ad S) sz) := by
  refine Met.ofW (cc := cX3_dominates) (maxL := 3) (ret := (some .boolean)) (by decide) rfl ?_
  intro p e s m args below meth c s₁ B hml hv
  obtain ⟨rfl, hsz, hP, hK, hD0, hex, hE⟩ := hv
  have hx := B.exec
  have hb := B.bytes
  have hr := B.returns
  have hts0 := atoms_spec (ws := wt yX3_dominates cX3_dominates 3 (some .boolean)) B.pre
  have hts : ∀ w ∈ tb, w.before _ s = true := fun w h => hts0 w (List.mem_cons_of_mem _ h)
  have hown : s.vm.findClass RX3 = some m.cls := findClass_of_methodNamed B.named
  subst hsz
  have hD := hD0.self (sz := s.heap.size)
  generalize hAe : va_A (WdC g ad S) s.heap.size = A at hD hE ⊢
  have hA : ∀ q : Nat, s.heap.size ≤ q → A q := fun q h => by rw [← hAe]; exact Or.inr h
  have hR : RepC g ad A s S s.heap [] := ⟨hK, hP, hD, va_S.rf, hw⟩
  clear hK hP hD hD0
  have hl := lv_entry ([.ref (ad 52), .int x1, .int x2]) (n := 3) (Nat.le_of_ble_eq_true rfl)
  rw [lg_entry_eq]
  generalize (lg_sl ([.ref (ad 52), .int x1, .int x2]) ++ List.replicate (3 - (lg_sl ([.ref (ad 52), .int x1, .int x2])).length) Slot.unset).toArray = ls at hl ⊢
  have hl : lv_has ls 3 [(0, .ref (ad 52)), (1, .int x1), (2, .int x2)] := hl
  obtain ⟨r0, hf⟩ : ∃ r0, fX3_dominates S x1 x2 = r0 := ⟨_, rfl⟩
  have hf0 := hf
  unfold fX3_dominates at hf
  unfold d_X3_dominates at hd
  refine lv_aload_n hx hb dX3_dominates_0 rfl (lv_at hl 0 rfl) ?_
  have hT_b1 : qT S (qO S 52 9) = 401 := hR.w.ref (hR.w.ptr ptrC_29) (hR.w.2.1 _ finC_30).2.1
  refine va_get (D := rD g) (ci := 3) (v := .ref (ad (qO S 52 9))) (C := RX3) (T := TX3) (N := 16) hx hb hts inX3 hown hR.K hR.P 52 (hR.at43 (hR.w.2.1 _ finC_30).2.1) rfl 9 (by decide) (hts _ kw_866) (fun _ h9 => h9) (congrArg (fun z => some (vf ad z)) (hR.w.ptr ptrC_29)) dX3_dominates_1 ?_
  refine lv_iload_n hx hb dX3_dominates_4 rfl (lv_at hl 2 rfl) ?_
  refine lv_aload_n hx hb dX3_dominates_5 rfl (lv_at hl 0 rfl) ?_
  refine va_get (D := rD g) (ci := 3) (v := .int (qI S 52 10)) (C := RX3) (T := TX3) (N := 16) hx hb hts inX3 hown hR.K hR.P 52 (hR.at43 (hR.w.2.1 _ finC_30).2.1) rfl 10 (by decide) (hts _ kw_867) (fun _ h9 => h9) rfl dX3_dominates_6 ?_
  refine lv_imul hx hb dX3_dominates_9 ?_
  refine lv_topi (fun z2 ez2 => ?_)
  obtain rfl : z2 = (x2 * (qI S 52 10)) := ez2
  refine lv_iload_n hx hb dX3_dominates_10 rfl (lv_at hl 1 rfl) ?_
  refine lv_bipush (v := 6) hx hb dX3_dominates_11 (by decide) ?_
  refine lv_ishr hx hb dX3_dominates_13 ?_
  refine lv_topi (fun z3 ez3 => ?_)
  obtain rfl : z3 = (x1 >>> ((6 : Int32) &&& 31)) := ez3
  refine lv_iadd hx hb dX3_dominates_14 ?_
  refine lv_topi (fun z4 ez4 => ?_)
  obtain rfl : z4 = ((x2 * (qI S 52 10)) + (x1 >>> ((6 : Int32) &&& 31))) := ez4
  obtain ⟨hv5, hd⟩ := hd
  refine va_lald hx hb hR.K hR.P (qO S 52 9) 3 (hR.atL hT_b1 (by decide)) rfl (k_ix (x := ((x2 * (qI S 52 10)) + (x1 >>> ((6 : Int32) &&& 31)))) (a := ((x2 * (qI S 52 10)) + (x1 >>> ((6 : Int32) &&& 31))).toInt) rfl hv5) dX3_dominates_15 ?_
  refine lv_topl (fun z6 ez6 => ?_)
  obtain rfl : z6 = (qJ S (qO S 52 9) ((((x2 * (qI S 52 10)) + (x1 >>> ((6 : Int32) &&& 31))).toInt).toNat)) := ez6
  refine lv_iload_n hx hb dX3_dominates_16 rfl (lv_at hl 1 rfl) ?_
  refine lv_bipush (v := 63) hx hb dX3_dominates_17 (by decide) ?_
  refine lv_iand hx hb dX3_dominates_19 ?_
  refine lv_topi (fun z7 ez7 => ?_)
  obtain rfl : z7 = (x1 &&& (63 : Int32)) := ez7
  refine lv_lushr (v := (((qJ S (qO S 52 9) ((((x2 * (qI S 52 10)) + (x1 >>> ((6 : Int32) &&& 31))).toInt).toNat)).toUInt64 >>> ((x1 &&& (63 : Int32)).toInt64.toUInt64 &&& Int64.toUInt64 63)).toInt64)) hx hb dX3_dominates_20 rfl ?_
  refine lv_lconst (v := 1) hx hb dX3_dominates_21 (by decide) ?_
  refine lv_land hx hb dX3_dominates_22 ?_
  refine lv_topl (fun z8 ez8 => ?_)
  obtain rfl : z8 = ((((qJ S (qO S 52 9) ((((x2 * (qI S 52 10)) + (x1 >>> ((6 : Int32) &&& 31))).toInt).toNat)).toUInt64 >>> ((x1 &&& (63 : Int32)).toInt64.toUInt64 &&& Int64.toUInt64 63)).toInt64) &&& (1 : Int64)) := ez8
  refine lv_lconst (v := 0) hx hb dX3_dominates_23 (by decide) ?_
  refine W.lcmp hx hb dX3_dominates_24 ?_
  refine lv_topi (fun z9 ez9 => ?_)
  obtain rfl : z9 = (lg_cmp ((((qJ S (qO S 52 9) ((((x2 * (qI S 52 10)) + (x1 >>> ((6 : Int32) &&& 31))).toInt).toNat)).toUInt64 >>> ((x1 &&& (63 : Int32)).toInt64.toUInt64 &&& Int64.toUInt64 63)).toInt64) &&& (1 : Int64)) 0) := ez9
  refine lv_if_eq (tgt := 32) hx hb dX3_dominates_25 (by decide) (fun c10 => ?_) (fun c10 => ?_)
  · rw [if_pos (k_eq rfl (by decide) c10)] at hf
    (try rw [if_pos (k_eq rfl (by decide) c10)] at hd)
    refine lv_iconst (v := 0) hx hb dX3_dominates_32 (by decide) ?_
    exact W.zret (v := 0) hx hb hr (nz (Or.inl rfl)) (fun t9 ht9 hW9 => ⟨⟨_, (), rfl, ⟨hf.trans hf0.symm, (Or.inl rfl)⟩, ⟨by rw [ht9]; exact hR.P, hR.D⟩⟩, hR.sS.F ht9⟩) hR.sS.2.2 dX3_dominates_33
  · rw [if_neg (k_ne rfl (by decide) c10)] at hf
    (try rw [if_neg (k_ne rfl (by decide) c10)] at hd)
    refine lv_iconst (v := 1) hx hb dX3_dominates_28 (by decide) ?_
    refine lv_goto (tgt := 33) hx hb dX3_dominates_29 (by decide) ?_
    exact W.zret (v := 1) hx hb hr (nz (Or.inr rfl)) (fun t9 ht9 hW9 => ⟨⟨_, (), rfl, ⟨hf.trans hf0.symm, (Or.inr rfl)⟩, ⟨by rw [ht9]; exact hR.P, hR.D⟩⟩, hR.sS.F ht9⟩) hR.sS.2.2 dX3_dominates_33
def w_X3_narrow_J95 (Q : Int32 → MS → Prop) (k5 : MS → Int32 → Int32 → Int32 → Int32 → Prop) (U95 : MS) (t95_0 : Int32) (t95_1 : Int32) (v95_1 : Int32) (v95_2 : Int32) (v95_4 : Int32) (v95_7 : Int64) : Prop := (wfC U95 → (t95_0 = 0 ∨ t95_0 = 1) → (∀ a24 : Int32, a24 = (t95_1 ||| t95_0) → (((0 : Int) ≤ ((v95_1 * (qI U95 52 10)) + v95_4).toInt ∧ ((v95_1 * (qI U95 52 10)) + v95_4).toInt < (qN U95 (qO U95 52 9) : Int)) ∧ (∀ S29, S29 = wJ U95 (qO U95 52 9) ((((v95_1 * (qI U95 52 10)) + v95_4).toInt).toNat) v95_7 → qT U95 (qO U95 52 9) = 401 → wfC S29 → (∀ a30 : Int32, a30 = (v95_4 + Int32.ofInt 1) → k5 S29 v95_1 v95_2 a24 a30)))))
def w_X3_narrow_J33 (Q : Int32 → MS → Prop) (k5 : MS → Int32 → Int32 → Int32 → Int32 → Prop) (U33 : MS) (t33_0 : Int64) (v33_1 : Int32) (v33_2 : Int32) (v33_3 : Int32) (v33_4 : Int32) : Prop := (wfC U33 → (((0 : Int) ≤ ((v33_1 * (qI U33 52 10)) + v33_4).toInt ∧ ((v33_1 * (qI U33 52 10)) + v33_4).toInt < (qN U33 (qO U33 52 9) : Int)) ∧ (((0 : Int) ≤ ((v33_2 * (qI U33 52 10)) + v33_4).toInt ∧ ((v33_2 * (qI U33 52 10)) + v33_4).toInt < (qN U33 (qO U33 52 9) : Int)) ∧ (∀ a16 : Int64, a16 = ((qJ U33 (qO U33 52 9) ((((v33_1 * (qI U33 52 10)) + v33_4).toInt).toNat)) &&& ((qJ U33 (qO U33 52 9) ((((v33_2 * (qI U33 52 10)) + v33_4).toInt).toNat)) ||| t33_0)) → (((0 : Int) ≤ ((v33_1 * (qI U33 52 10)) + v33_4).toInt ∧ ((v33_1 * (qI U33 52 10)) + v33_4).toInt < (qN U33 (qO U33 52 9) : Int)) ∧ (((lg_cmp a16 (qJ U33 (qO U33 52 9) ((((v33_1 * (qI U33 52 10)) + v33_4).toInt).toNat))).toInt = 0 → w_X3_narrow_J95 Q k5 U33 0 v33_3 v33_1 v33_2 v33_4 a16) ∧ (¬ (lg_cmp a16 (qJ U33 (qO U33 52 9) ((((v33_1 * (qI U33 52 10)) + v33_4).toInt).toNat))).toInt = 0 → w_X3_narrow_J95 Q k5 U33 1 v33_3 v33_1 v33_2 v33_4 a16)))))))
def w_X3_narrow_L5 (Q : Int32 → MS → Prop) : Nat → MS → Int32 → Int32 → Int32 → Int32 → Prop
  | 0, _, _, _, _, _ => False
  | n5 + 1, U5, v5_1, v5_2, v5_3, v5_4 => (wfC U5 → (((qI U5 52 10).toInt ≤ v5_4.toInt → ((v5_3 = 0 ∨ v5_3 = 1) ∧ Q v5_3 U5)) ∧ (¬ (qI U5 52 10).toInt ≤ v5_4.toInt → ((v5_4.toInt = (v5_1 >>> ((6 : Int32) &&& 31)).toInt → w_X3_narrow_J33 Q (w_X3_narrow_L5 Q n5) U5 ((1 : Int64) <<< ((v5_1 &&& (63 : Int32)).toInt64 &&& 63)) v5_1 v5_2 v5_3 v5_4) ∧ (¬ v5_4.toInt = (v5_1 >>> ((6 : Int32) &&& 31)).toInt → w_X3_narrow_J33 Q (w_X3_narrow_L5 Q n5) U5 0 v5_1 v5_2 v5_3 v5_4)))))
def wX3_narrow (S : MS) (x1 : Int32) (x2 : Int32) (Q : Int32 → MS → Prop) : Prop := (∃ n, w_X3_narrow_L5 Q n S x1 x2 0 0)
set_option maxHeartbeats 2000000 in
set_option maxRecDepth 100000 in
theorem rX3_narrow (l : Launch) (g : Gr) (ad : Nat → Nat) (sz : Nat) (S : MS) (x1 : Int32) (x2 : Int32) (hw : wfC S) (Q : Int32 → MS → Prop) (h : wX3_narrow S x1 x2 Q) : Met l yX3_narrow (wt yX3_narrow cX3_narrow 9 (some .boolean)) ({ frames := 0, cells := 0, slots := 0, locals := 0 }) (va_Pc [.ref (ad 52), .int x1, .int x2] (st_C g ad sz S)) (va_Qi (fun (r : Int32) (u : MS) => Q r u ∧ wfC u ∧ shy S u ∧ (r = 0 ∨ r = 1)) (fun (u : MS) (t : State) => qEC g ad (va_A (WdC g ad S) sz) u t) (va_A (WdC g ad S) sz)) 0 0 (va_A (WdC g ad S) sz) := by
  refine Met.ofW (cc := cX3_narrow) (maxL := 9) (ret := (some .boolean)) (by decide) rfl ?_
  intro p e s m args below meth c s₁ B hml hv
  obtain ⟨rfl, hsz, hP, hK, hD0, hex, hE⟩ := hv
  have hx := B.exec
  have hb := B.bytes
  have hr := B.returns
  have hts0 := atoms_spec (ws := wt yX3_narrow cX3_narrow 9 (some .boolean)) B.pre
  have hts : ∀ w ∈ tb, w.before _ s = true := fun w h => hts0 w (List.mem_cons_of_mem _ h)
  have hown : s.vm.findClass RX3 = some m.cls := findClass_of_methodNamed B.named
  subst hsz
  have hD := hD0.self (sz := s.heap.size)
  generalize hAe : va_A (WdC g ad S) s.heap.size = A at hD hE ⊢
  have hA : ∀ q : Nat, s.heap.size ≤ q → A q := fun q h => by rw [← hAe]; exact Or.inr h
  have hR : RepC g ad A s S s.heap [] := ⟨hK, hP, hD, va_S.rf, hw⟩
  clear hK hP hD hD0
  have hl := lv_entry ([.ref (ad 52), .int x1, .int x2]) (n := 9) (Nat.le_of_ble_eq_true rfl)
  rw [lg_entry_eq]
  generalize (lg_sl ([.ref (ad 52), .int x1, .int x2]) ++ List.replicate (9 - (lg_sl ([.ref (ad 52), .int x1, .int x2])).length) Slot.unset).toArray = ls at hl ⊢
  have hl : lv_has ls 9 [(0, .ref (ad 52)), (1, .int x1), (2, .int x2)] := hl
  have hsh : shy S S := shy.rf
  unfold wX3_narrow at h
  refine lv_iconst (v := 0) hx hb dX3_narrow_0 (by decide) ?_
  refine lv_istore_n (lv' := [(3, .int 0), (0, .ref (ad 52)), (1, .int x1), (2, .int x2)]) hx hb dX3_narrow_1 rfl hl (by decide) rfl (fun ls hl => ?_)
  refine lv_iconst (v := 0) hx hb dX3_narrow_2 (by decide) ?_
  refine lv_istore (lv' := [(4, .int 0), (3, .int 0), (0, .ref (ad 52)), (1, .int x1), (2, .int x2)]) hx hb dX3_narrow_3 hl (by decide) rfl (fun ls hl => ?_)
  have J_5 : ∀ (n5 : Nat) (U5 : MS) (v5_1 : Int32) (v5_2 : Int32) (v5_3 : Int32) (v5_4 : Int32) (H : Heap) (locs : List Loc) (ls : Array Slot), w_X3_narrow_L5 Q n5 U5 v5_1 v5_2 v5_3 v5_4 → shy S U5 → RepC g ad A s U5 H locs → lv_has ls 9 [(0, .ref (ad 52)), (1, .int v5_1), (2, .int v5_2), (3, .int v5_3), (4, .int v5_4)] → W p l e (headSpec (wt yX3_narrow cX3_narrow 9 (some .boolean)) ({ frames := 0, cells := 0, slots := 0, locals := 0 })).room s m ([.ref (ad 52), .int x1, .int x2] : List Value).toArray below meth c H locs 0 0 (MQ below (va_Qi (fun (r : Int32) (u : MS) => Q r u ∧ wfC u ∧ shy S u ∧ (r = 0 ∨ r = 1)) (fun (u : MS) (t : State) => qEC g ad A u t) A) ([.ref (ad 52), .int x1, .int x2] : List Value).toArray s 0 0 A) (F0 m 5 ls []) := by
    intro n5
    induction n5 with
    | zero => intro U5 v5_1 v5_2 v5_3 v5_4 H locs ls h hsh hR hl; unfold w_X3_narrow_L5 at h; exact h.elim
    | succ n5 ih_5 =>
      intro U5 v5_1 v5_2 v5_3 v5_4 H locs ls h hsh hR hl
      unfold w_X3_narrow_L5 at h
      replace h := h hR.w
      refine lv_iload hx hb dX3_narrow_5 (lv_at hl 4 rfl) ?_
      refine lv_aload_n hx hb dX3_narrow_7 rfl (lv_at hl 0 rfl) ?_
      refine va_get (D := rD g) (ci := 3) (v := .int (qI U5 52 10)) (C := RX3) (T := TX3) (N := 16) hx hb hts inX3 hown hR.K hR.P 52 (hR.at43 (hR.w.2.1 _ finC_30).2.1) rfl 10 (by decide) (hts _ kw_867) (fun _ h9 => h9) rfl dX3_narrow_8 ?_
      refine lv_icmp_ge (tgt := 119) hx hb dX3_narrow_11 (by decide) (fun c1 => ?_) (fun c1 => ?_)
      · replace h := h.1 (k_le rfl rfl c1)
        refine lv_iload_n hx hb dX3_narrow_119 rfl (lv_at hl 3 rfl) ?_
        obtain ⟨hv2, h⟩ := h
        exact W.zret (v := v5_3) hx hb hr (nz hv2) (fun t9 ht9 hW9 => ⟨⟨_, U5, rfl, ⟨h, hR.w, hsh, hv2⟩, ⟨by rw [ht9]; exact hR.P, hR.D⟩⟩, hR.sS.F ht9⟩) hR.sS.2.2 dX3_narrow_120
      · replace h := h.2 (k_nle rfl rfl c1)
        refine lv_iload hx hb dX3_narrow_14 (lv_at hl 4 rfl) ?_
        refine lv_iload_n hx hb dX3_narrow_16 rfl (lv_at hl 1 rfl) ?_
        refine lv_bipush (v := 6) hx hb dX3_narrow_17 (by decide) ?_
        refine lv_ishr hx hb dX3_narrow_19 ?_
        refine lv_topi (fun z3 ez3 => ?_)
        obtain rfl : z3 = (v5_1 >>> ((6 : Int32) &&& 31)) := ez3
        have J_33 : ∀ (U33 : MS) (t33_0 : Int64) (v33_1 : Int32) (v33_2 : Int32) (v33_3 : Int32) (v33_4 : Int32) (H : Heap) (locs : List Loc) (ls : Array Slot), w_X3_narrow_J33 Q (w_X3_narrow_L5 Q n5) U33 t33_0 v33_1 v33_2 v33_3 v33_4 → shy S U33 → RepC g ad A s U33 H locs → lv_has ls 9 [(0, .ref (ad 52)), (1, .int v33_1), (2, .int v33_2), (3, .int v33_3), (4, .int v33_4)] → W p l e (headSpec (wt yX3_narrow cX3_narrow 9 (some .boolean)) ({ frames := 0, cells := 0, slots := 0, locals := 0 })).room s m ([.ref (ad 52), .int x1, .int x2] : List Value).toArray below meth c H locs 0 0 (MQ below (va_Qi (fun (r : Int32) (u : MS) => Q r u ∧ wfC u ∧ shy S u ∧ (r = 0 ∨ r = 1)) (fun (u : MS) (t : State) => qEC g ad A u t) A) ([.ref (ad 52), .int x1, .int x2] : List Value).toArray s 0 0 A) (F0 m 33 ls [.long t33_0]) := by
          intro U33 t33_0 v33_1 v33_2 v33_3 v33_4 H locs ls h hsh hR hl
          unfold w_X3_narrow_J33 at h
          replace h := h hR.w
          refine lv_lstore (lv' := [(5, .long t33_0), (0, .ref (ad 52)), (1, .int v33_1), (2, .int v33_2), (3, .int v33_3), (4, .int v33_4)]) hx hb dX3_narrow_33 hl (by decide) rfl (fun ls hl => ?_)
          refine lv_aload_n hx hb dX3_narrow_35 rfl (lv_at hl 1 rfl) ?_
          have hT_b4 : qT U33 (qO U33 52 9) = 401 := hR.w.ref (hR.w.ptr ptrC_29) (hR.w.2.1 _ finC_30).2.1
          refine va_get (D := rD g) (ci := 3) (v := .ref (ad (qO U33 52 9))) (C := RX3) (T := TX3) (N := 16) hx hb hts inX3 hown hR.K hR.P 52 (hR.at43 (hR.w.2.1 _ finC_30).2.1) rfl 9 (by decide) (hts _ kw_866) (fun _ h9 => h9) (congrArg (fun z => some (vf ad z)) (hR.w.ptr ptrC_29)) dX3_narrow_36 ?_
          refine lv_iload_n hx hb dX3_narrow_39 rfl (lv_at hl 2 rfl) ?_
          refine lv_aload_n hx hb dX3_narrow_40 rfl (lv_at hl 1 rfl) ?_
          refine va_get (D := rD g) (ci := 3) (v := .int (qI U33 52 10)) (C := RX3) (T := TX3) (N := 16) hx hb hts inX3 hown hR.K hR.P 52 (hR.at43 (hR.w.2.1 _ finC_30).2.1) rfl 10 (by decide) (hts _ kw_867) (fun _ h9 => h9) rfl dX3_narrow_41 ?_
          refine lv_imul hx hb dX3_narrow_44 ?_
          refine lv_topi (fun z5 ez5 => ?_)
          obtain rfl : z5 = (v33_1 * (qI U33 52 10)) := ez5
          refine lv_iload hx hb dX3_narrow_45 (lv_at hl 5 rfl) ?_
          refine lv_iadd hx hb dX3_narrow_47 ?_
          refine lv_topi (fun z6 ez6 => ?_)
          obtain rfl : z6 = ((v33_1 * (qI U33 52 10)) + v33_4) := ez6
          obtain ⟨hv7, h⟩ := h
          refine va_lald hx hb hR.K hR.P (qO U33 52 9) 3 (hR.atL hT_b4 (by decide)) rfl (k_ix (x := ((v33_1 * (qI U33 52 10)) + v33_4)) (a := ((v33_1 * (qI U33 52 10)) + v33_4).toInt) rfl hv7) dX3_narrow_48 ?_
          refine lv_topl (fun z8 ez8 => ?_)
          obtain rfl : z8 = (qJ U33 (qO U33 52 9) ((((v33_1 * (qI U33 52 10)) + v33_4).toInt).toNat)) := ez8
          refine lv_aload_n hx hb dX3_narrow_49 rfl (lv_at hl 1 rfl) ?_
          have hT_b9 : qT U33 (qO U33 52 9) = 401 := hR.w.ref (hR.w.ptr ptrC_29) (hR.w.2.1 _ finC_30).2.1
          refine va_get (D := rD g) (ci := 3) (v := .ref (ad (qO U33 52 9))) (C := RX3) (T := TX3) (N := 16) hx hb hts inX3 hown hR.K hR.P 52 (hR.at43 (hR.w.2.1 _ finC_30).2.1) rfl 9 (by decide) (hts _ kw_866) (fun _ h9 => h9) (congrArg (fun z => some (vf ad z)) (hR.w.ptr ptrC_29)) dX3_narrow_50 ?_
          refine lv_iload_n hx hb dX3_narrow_53 rfl (lv_at hl 3 rfl) ?_
          refine lv_aload_n hx hb dX3_narrow_54 rfl (lv_at hl 1 rfl) ?_
          refine va_get (D := rD g) (ci := 3) (v := .int (qI U33 52 10)) (C := RX3) (T := TX3) (N := 16) hx hb hts inX3 hown hR.K hR.P 52 (hR.at43 (hR.w.2.1 _ finC_30).2.1) rfl 10 (by decide) (hts _ kw_867) (fun _ h9 => h9) rfl dX3_narrow_55 ?_
          refine lv_imul hx hb dX3_narrow_58 ?_
          refine lv_topi (fun z10 ez10 => ?_)
          obtain rfl : z10 = (v33_2 * (qI U33 52 10)) := ez10
          refine lv_iload hx hb dX3_narrow_59 (lv_at hl 5 rfl) ?_
          refine lv_iadd hx hb dX3_narrow_61 ?_
          refine lv_topi (fun z11 ez11 => ?_)
          obtain rfl : z11 = ((v33_2 * (qI U33 52 10)) + v33_4) := ez11
          obtain ⟨hv12, h⟩ := h
          refine va_lald hx hb hR.K hR.P (qO U33 52 9) 3 (hR.atL hT_b9 (by decide)) rfl (k_ix (x := ((v33_2 * (qI U33 52 10)) + v33_4)) (a := ((v33_2 * (qI U33 52 10)) + v33_4).toInt) rfl hv12) dX3_narrow_62 ?_
          refine lv_topl (fun z13 ez13 => ?_)
          obtain rfl : z13 = (qJ U33 (qO U33 52 9) ((((v33_2 * (qI U33 52 10)) + v33_4).toInt).toNat)) := ez13
          refine lv_lload hx hb dX3_narrow_63 (lv_at hl 0 rfl) ?_
          refine lv_lor hx hb dX3_narrow_65 ?_
          refine lv_topl (fun z14 ez14 => ?_)
          obtain rfl : z14 = ((qJ U33 (qO U33 52 9) ((((v33_2 * (qI U33 52 10)) + v33_4).toInt).toNat)) ||| t33_0) := ez14
          refine lv_land hx hb dX3_narrow_66 ?_
          refine lv_topl (fun z15 ez15 => ?_)
          obtain rfl : z15 = ((qJ U33 (qO U33 52 9) ((((v33_1 * (qI U33 52 10)) + v33_4).toInt).toNat)) &&& ((qJ U33 (qO U33 52 9) ((((v33_2 * (qI U33 52 10)) + v33_4).toInt).toNat)) ||| t33_0)) := ez15
          obtain ⟨a16, ea16⟩ : ∃ z, z = ((qJ U33 (qO U33 52 9) ((((v33_1 * (qI U33 52 10)) + v33_4).toInt).toNat)) &&& ((qJ U33 (qO U33 52 9) ((((v33_2 * (qI U33 52 10)) + v33_4).toInt).toNat)) ||| t33_0)) := ⟨_, rfl⟩
          rw [← ea16]
          replace h := h a16 ea16
          refine lv_lstore (lv' := [(7, .long a16), (5, .long t33_0), (0, .ref (ad 52)), (1, .int v33_1), (2, .int v33_2), (3, .int v33_3), (4, .int v33_4)]) hx hb dX3_narrow_67 hl (by decide) rfl (fun ls hl => ?_)
          refine lv_iload_n hx hb dX3_narrow_69 rfl (lv_at hl 5 rfl) ?_
          refine lv_lload hx hb dX3_narrow_70 (lv_at hl 0 rfl) ?_
          refine lv_aload_n hx hb dX3_narrow_72 rfl (lv_at hl 2 rfl) ?_
          have hT_b17 : qT U33 (qO U33 52 9) = 401 := hR.w.ref (hR.w.ptr ptrC_29) (hR.w.2.1 _ finC_30).2.1
          refine va_get (D := rD g) (ci := 3) (v := .ref (ad (qO U33 52 9))) (C := RX3) (T := TX3) (N := 16) hx hb hts inX3 hown hR.K hR.P 52 (hR.at43 (hR.w.2.1 _ finC_30).2.1) rfl 9 (by decide) (hts _ kw_866) (fun _ h9 => h9) (congrArg (fun z => some (vf ad z)) (hR.w.ptr ptrC_29)) dX3_narrow_73 ?_
          refine lv_iload_n hx hb dX3_narrow_76 rfl (lv_at hl 3 rfl) ?_
          refine lv_aload_n hx hb dX3_narrow_77 rfl (lv_at hl 2 rfl) ?_
          refine va_get (D := rD g) (ci := 3) (v := .int (qI U33 52 10)) (C := RX3) (T := TX3) (N := 16) hx hb hts inX3 hown hR.K hR.P 52 (hR.at43 (hR.w.2.1 _ finC_30).2.1) rfl 10 (by decide) (hts _ kw_867) (fun _ h9 => h9) rfl dX3_narrow_78 ?_
          refine lv_imul hx hb dX3_narrow_81 ?_
          refine lv_topi (fun z18 ez18 => ?_)
          obtain rfl : z18 = (v33_1 * (qI U33 52 10)) := ez18
          refine lv_iload hx hb dX3_narrow_82 (lv_at hl 6 rfl) ?_
          refine lv_iadd hx hb dX3_narrow_84 ?_
          refine lv_topi (fun z19 ez19 => ?_)
          obtain rfl : z19 = ((v33_1 * (qI U33 52 10)) + v33_4) := ez19
          obtain ⟨hv20, h⟩ := h
          refine va_lald hx hb hR.K hR.P (qO U33 52 9) 3 (hR.atL hT_b17 (by decide)) rfl (k_ix (x := ((v33_1 * (qI U33 52 10)) + v33_4)) (a := ((v33_1 * (qI U33 52 10)) + v33_4).toInt) rfl hv20) dX3_narrow_85 ?_
          refine lv_topl (fun z21 ez21 => ?_)
          obtain rfl : z21 = (qJ U33 (qO U33 52 9) ((((v33_1 * (qI U33 52 10)) + v33_4).toInt).toNat)) := ez21
          refine W.lcmp hx hb dX3_narrow_86 ?_
          refine lv_topi (fun z22 ez22 => ?_)
          obtain rfl : z22 = (lg_cmp a16 (qJ U33 (qO U33 52 9) ((((v33_1 * (qI U33 52 10)) + v33_4).toInt).toNat))) := ez22
          have J_95 : ∀ (U95 : MS) (t95_0 : Int32) (t95_1 : Int32) (v95_1 : Int32) (v95_2 : Int32) (v95_4 : Int32) (v95_7 : Int64) (H : Heap) (locs : List Loc) (ls : Array Slot), w_X3_narrow_J95 Q (w_X3_narrow_L5 Q n5) U95 t95_0 t95_1 v95_1 v95_2 v95_4 v95_7 → (t95_0 = 0 ∨ t95_0 = 1) → shy S U95 → RepC g ad A s U95 H locs → lv_has ls 9 [(0, .ref (ad 52)), (1, .int v95_1), (2, .int v95_2), (4, .int v95_4), (7, .long v95_7)] → W p l e (headSpec (wt yX3_narrow cX3_narrow 9 (some .boolean)) ({ frames := 0, cells := 0, slots := 0, locals := 0 })).room s m ([.ref (ad 52), .int x1, .int x2] : List Value).toArray below meth c H locs 0 0 (MQ below (va_Qi (fun (r : Int32) (u : MS) => Q r u ∧ wfC u ∧ shy S u ∧ (r = 0 ∨ r = 1)) (fun (u : MS) (t : State) => qEC g ad A u t) A) ([.ref (ad 52), .int x1, .int x2] : List Value).toArray s 0 0 A) (F0 m 95 ls [.int t95_0, .int t95_1]) := by
            intro U95 t95_0 t95_1 v95_1 v95_2 v95_4 v95_7 H locs ls h hz_t95_0 hsh hR hl
            unfold w_X3_narrow_J95 at h
            replace h := h hR.w hz_t95_0
            refine lv_ior hx hb dX3_narrow_95 ?_
            refine lv_topi (fun z23 ez23 => ?_)
            obtain rfl : z23 = (t95_1 ||| t95_0) := ez23
            obtain ⟨a24, ea24⟩ : ∃ z, z = (t95_1 ||| t95_0) := ⟨_, rfl⟩
            rw [← ea24]
            replace h := h a24 ea24
            refine lv_istore_n (lv' := [(3, .int a24), (0, .ref (ad 52)), (1, .int v95_1), (2, .int v95_2), (4, .int v95_4), (7, .long v95_7)]) hx hb dX3_narrow_96 rfl hl (by decide) rfl (fun ls hl => ?_)
            refine lv_aload_n hx hb dX3_narrow_97 rfl (lv_at hl 1 rfl) ?_
            have hT_b25 : qT U95 (qO U95 52 9) = 401 := hR.w.ref (hR.w.ptr ptrC_29) (hR.w.2.1 _ finC_30).2.1
            refine va_get (D := rD g) (ci := 3) (v := .ref (ad (qO U95 52 9))) (C := RX3) (T := TX3) (N := 16) hx hb hts inX3 hown hR.K hR.P 52 (hR.at43 (hR.w.2.1 _ finC_30).2.1) rfl 9 (by decide) (hts _ kw_866) (fun _ h9 => h9) (congrArg (fun z => some (vf ad z)) (hR.w.ptr ptrC_29)) dX3_narrow_98 ?_
            refine lv_iload_n hx hb dX3_narrow_101 rfl (lv_at hl 2 rfl) ?_
            refine lv_aload_n hx hb dX3_narrow_102 rfl (lv_at hl 1 rfl) ?_
            refine va_get (D := rD g) (ci := 3) (v := .int (qI U95 52 10)) (C := RX3) (T := TX3) (N := 16) hx hb hts inX3 hown hR.K hR.P 52 (hR.at43 (hR.w.2.1 _ finC_30).2.1) rfl 10 (by decide) (hts _ kw_867) (fun _ h9 => h9) rfl dX3_narrow_103 ?_
            refine lv_imul hx hb dX3_narrow_106 ?_
            refine lv_topi (fun z26 ez26 => ?_)
            obtain rfl : z26 = (v95_1 * (qI U95 52 10)) := ez26
            refine lv_iload hx hb dX3_narrow_107 (lv_at hl 4 rfl) ?_
            refine lv_iadd hx hb dX3_narrow_109 ?_
            refine lv_topi (fun z27 ez27 => ?_)
            obtain rfl : z27 = ((v95_1 * (qI U95 52 10)) + v95_4) := ez27
            refine lv_lload hx hb dX3_narrow_110 (lv_at hl 5 rfl) ?_
            obtain ⟨hv28, h⟩ := h
            refine va_last hx hb hR.K hR.P hR.D hR.sS (qO U95 52 9) 3 (hR.atL hT_b25 (by decide)) rfl (k_ix (x := ((v95_1 * (qI U95 52 10)) + v95_4)) (a := ((v95_1 * (qI U95 52 10)) + v95_4).toInt) rfl hv28) dX3_narrow_112 (fun H locs hP hD hS => ?_)
            have hTk9 : qT U95 (qO U95 52 9) = 401 := hT_b25
            have hR : RepC g ad A s (wJ U95 (qO U95 52 9) ((((v95_1 * (qI U95 52 10)) + v95_4).toInt).toNat) v95_7) H locs := hR.aL hT_b25 (by decide) hP hD hS
            obtain ⟨S29, eS29⟩ : ∃ z, z = wJ U95 (qO U95 52 9) ((((v95_1 * (qI U95 52 10)) + v95_4).toInt).toNat) v95_7 := ⟨_, rfl⟩
            rw [← eS29] at hR
            replace h := h S29 eS29 hTk9 hR.w
            have hsh : shy S S29 := by rw [eS29]; exact hsh
            obtain ⟨a30, ea30⟩ : ∃ z, z = (v95_4 + Int32.ofInt 1) := ⟨_, rfl⟩
            replace h := h a30 ea30
            refine lv_iinc (v := a30) (lv' := [(4, .int a30), (3, .int a24), (0, .ref (ad 52)), (1, .int v95_1), (2, .int v95_2), (7, .long v95_7)]) hx hb dX3_narrow_113 hl (k := 4) rfl ea30.symm (by decide) rfl (fun ls hl => ?_)
            refine lv_goto (tgt := 5) hx hb dX3_narrow_116 (by decide) ?_
            exact ih_5 S29 v95_1 v95_2 a24 a30 _ _ ls h  hsh hR (lv_sub hl [2, 3, 4, 1, 0] rfl)
          refine lv_if_eq (tgt := 94) hx hb dX3_narrow_87 (by decide) (fun c31 => ?_) (fun c31 => ?_)
          · replace h := h.1 (k_eq rfl (by decide) c31)
            refine lv_iconst (v := 0) hx hb dX3_narrow_94 (by decide) ?_
            exact J_95 U33 0 v33_3 v33_1 v33_2 v33_4 a16 _ _ ls h (Or.inl rfl) hsh hR (lv_sub hl [2, 3, 4, 6, 0] rfl)
          · replace h := h.2 (k_ne rfl (by decide) c31)
            refine lv_iconst (v := 1) hx hb dX3_narrow_90 (by decide) ?_
            refine lv_goto (tgt := 95) hx hb dX3_narrow_91 (by decide) ?_
            exact J_95 U33 1 v33_3 v33_1 v33_2 v33_4 a16 _ _ ls h (Or.inr rfl) hsh hR (lv_sub hl [2, 3, 4, 6, 0] rfl)
        refine lv_icmp_ne (tgt := 32) hx hb dX3_narrow_20 (by decide) (fun c32 => ?_) (fun c32 => ?_)
        · replace h := h.2 (k_ne rfl rfl c32)
          refine lv_lconst (v := 0) hx hb dX3_narrow_32 (by decide) ?_
          exact J_33 U5 0 v5_1 v5_2 v5_3 v5_4 _ _ ls h  hsh hR (lv_sub hl [0, 1, 2, 3, 4] rfl)
        · replace h := h.1 (k_eq rfl rfl c32)
          refine lv_lconst (v := 1) hx hb dX3_narrow_23 (by decide) ?_
          refine lv_iload_n hx hb dX3_narrow_24 rfl (lv_at hl 1 rfl) ?_
          refine lv_bipush (v := 63) hx hb dX3_narrow_25 (by decide) ?_
          refine lv_iand hx hb dX3_narrow_27 ?_
          refine lv_topi (fun z33 ez33 => ?_)
          obtain rfl : z33 = (v5_1 &&& (63 : Int32)) := ez33
          refine lv_lshl (v := ((1 : Int64) <<< ((v5_1 &&& (63 : Int32)).toInt64 &&& 63))) hx hb dX3_narrow_28 rfl ?_
          refine lv_goto (tgt := 33) hx hb dX3_narrow_29 (by decide) ?_
          exact J_33 U5 ((1 : Int64) <<< ((v5_1 &&& (63 : Int32)).toInt64 &&& 63)) v5_1 v5_2 v5_3 v5_4 _ _ ls h  hsh hR (lv_sub hl [0, 1, 2, 3, 4] rfl)
  obtain ⟨n9, h⟩ := h
  exact J_5 n9 S x1 x2 0 0 _ _ ls h  hsh hR (lv_sub hl [2, 3, 4, 1, 0] rfl)
def w_X3_dominatorCount_L4 (Q : Int32 → MS → Prop) : Nat → MS → Int32 → Int32 → Int32 → Prop
  | 0, _, _, _, _ => False
  | n4 + 1, U4, v4_1, v4_2, v4_3 => (wfC U4 → (((qI U4 52 10).toInt ≤ v4_3.toInt → Q v4_2 U4) ∧ (¬ (qI U4 52 10).toInt ≤ v4_3.toInt → (((0 : Int) ≤ ((v4_1 * (qI U4 52 10)) + v4_3).toInt ∧ ((v4_1 * (qI U4 52 10)) + v4_3).toInt < (qN U4 (qO U4 52 9) : Int)) ∧ (d_J13_bitCount_95d88 U4 (qJ U4 (qO U4 52 9) ((((v4_1 * (qI U4 52 10)) + v4_3).toInt).toNat)) ∧ (∀ a11 : Int32, a11 = (v4_2 + (fJ13_bitCount_95d88 U4 (qJ U4 (qO U4 52 9) ((((v4_1 * (qI U4 52 10)) + v4_3).toInt).toNat)))) → (∀ a12 : Int32, a12 = (v4_3 + Int32.ofInt 1) → (w_X3_dominatorCount_L4 Q n4) U4 v4_1 a11 a12)))))))
def wX3_dominatorCount (S : MS) (x1 : Int32) (Q : Int32 → MS → Prop) : Prop := (∃ n, w_X3_dominatorCount_L4 Q n S x1 0 0)
set_option maxHeartbeats 2000000 in
set_option maxRecDepth 100000 in
theorem rX3_dominatorCount (l : Launch) (g : Gr) (ad : Nat → Nat) (sz : Nat) (S : MS) (x1 : Int32) (hw : wfC S) (Q : Int32 → MS → Prop) (h : wX3_dominatorCount S x1 Q) : Met l yX3_dominatorCount (wt yX3_dominatorCount cX3_dominatorCount 4 (some .int)) ({ frames := 1, cells := 0, slots := 0, locals := 21 }) (va_Pc [.ref (ad 52), .int x1] (st_C g ad sz S)) (va_Qi (fun (r : Int32) (u : MS) => Q r u ∧ wfC u ∧ shy S u) (fun (u : MS) (t : State) => qEC g ad (va_A (WdC g ad S) sz) u t) (va_A (WdC g ad S) sz)) 0 0 (va_A (WdC g ad S) sz) := by
  refine Met.ofW (cc := cX3_dominatorCount) (maxL := 4) (ret := (some .int)) (by decide) rfl ?_
  intro p e s m args below meth c s₁ B hml hv
  obtain ⟨rfl, hsz, hP, hK, hD0, hex, hE⟩ := hv
  have hx := B.exec
  have hb := B.bytes
  have hr := B.returns
  have hts0 := atoms_spec (ws := wt yX3_dominatorCount cX3_dominatorCount 4 (some .int)) B.pre
  have hts : ∀ w ∈ tb, w.before _ s = true := fun w h => hts0 w (List.mem_cons_of_mem _ h)
  have hown : s.vm.findClass RX3 = some m.cls := findClass_of_methodNamed B.named
  subst hsz
  have hD := hD0.self (sz := s.heap.size)
  generalize hAe : va_A (WdC g ad S) s.heap.size = A at hD hE ⊢
  have hA : ∀ q : Nat, s.heap.size ≤ q → A q := fun q h => by rw [← hAe]; exact Or.inr h
  have hR : RepC g ad A s S s.heap [] := ⟨hK, hP, hD, va_S.rf, hw⟩
  clear hK hP hD hD0
  have hl := lv_entry ([.ref (ad 52), .int x1]) (n := 4) (Nat.le_of_ble_eq_true rfl)
  rw [lg_entry_eq]
  generalize (lg_sl ([.ref (ad 52), .int x1]) ++ List.replicate (4 - (lg_sl ([.ref (ad 52), .int x1])).length) Slot.unset).toArray = ls at hl ⊢
  have hl : lv_has ls 4 [(0, .ref (ad 52)), (1, .int x1)] := hl
  have hsh : shy S S := shy.rf
  unfold wX3_dominatorCount at h
  refine lv_iconst (v := 0) hx hb dX3_dominatorCount_0 (by decide) ?_
  refine lv_istore_n (lv' := [(2, .int 0), (0, .ref (ad 52)), (1, .int x1)]) hx hb dX3_dominatorCount_1 rfl hl (by decide) rfl (fun ls hl => ?_)
  refine lv_iconst (v := 0) hx hb dX3_dominatorCount_2 (by decide) ?_
  refine lv_istore_n (lv' := [(3, .int 0), (2, .int 0), (0, .ref (ad 52)), (1, .int x1)]) hx hb dX3_dominatorCount_3 rfl hl (by decide) rfl (fun ls hl => ?_)
  have J_4 : ∀ (n4 : Nat) (U4 : MS) (v4_1 : Int32) (v4_2 : Int32) (v4_3 : Int32) (H : Heap) (locs : List Loc) (ls : Array Slot), w_X3_dominatorCount_L4 Q n4 U4 v4_1 v4_2 v4_3 → shy S U4 → RepC g ad A s U4 H locs → lv_has ls 4 [(0, .ref (ad 52)), (1, .int v4_1), (2, .int v4_2), (3, .int v4_3)] → W p l e (headSpec (wt yX3_dominatorCount cX3_dominatorCount 4 (some .int)) ({ frames := 1, cells := 0, slots := 0, locals := 21 })).room s m ([.ref (ad 52), .int x1] : List Value).toArray below meth c H locs 0 0 (MQ below (va_Qi (fun (r : Int32) (u : MS) => Q r u ∧ wfC u ∧ shy S u) (fun (u : MS) (t : State) => qEC g ad A u t) A) ([.ref (ad 52), .int x1] : List Value).toArray s 0 0 A) (F0 m 4 ls []) := by
    intro n4
    induction n4 with
    | zero => intro U4 v4_1 v4_2 v4_3 H locs ls h hsh hR hl; unfold w_X3_dominatorCount_L4 at h; exact h.elim
    | succ n4 ih_4 =>
      intro U4 v4_1 v4_2 v4_3 H locs ls h hsh hR hl
      unfold w_X3_dominatorCount_L4 at h
      replace h := h hR.w
      refine lv_iload_n hx hb dX3_dominatorCount_4 rfl (lv_at hl 3 rfl) ?_
      refine lv_aload_n hx hb dX3_dominatorCount_5 rfl (lv_at hl 0 rfl) ?_
      refine va_get (D := rD g) (ci := 3) (v := .int (qI U4 52 10)) (C := RX3) (T := TX3) (N := 16) hx hb hts inX3 hown hR.K hR.P 52 (hR.at43 (hR.w.2.1 _ finC_30).2.1) rfl 10 (by decide) (hts _ kw_867) (fun _ h9 => h9) rfl dX3_dominatorCount_6 ?_
      refine lv_icmp_ge (tgt := 37) hx hb dX3_dominatorCount_9 (by decide) (fun c1 => ?_) (fun c1 => ?_)
      · replace h := h.1 (k_le rfl rfl c1)
        refine lv_iload_n hx hb dX3_dominatorCount_37 rfl (lv_at hl 2 rfl) ?_
        exact W.iret (v := v4_2) hx hb hr (fun t9 ht9 hW9 => ⟨⟨_, U4, rfl, ⟨h, hR.w, hsh⟩, ⟨by rw [ht9]; exact hR.P, hR.D⟩⟩, hR.sS.F ht9⟩) hR.sS.2.2 dX3_dominatorCount_38
      · replace h := h.2 (k_nle rfl rfl c1)
        refine lv_iload_n hx hb dX3_dominatorCount_12 rfl (lv_at hl 2 rfl) ?_
        refine lv_aload_n hx hb dX3_dominatorCount_13 rfl (lv_at hl 0 rfl) ?_
        have hT_b2 : qT U4 (qO U4 52 9) = 401 := hR.w.ref (hR.w.ptr ptrC_29) (hR.w.2.1 _ finC_30).2.1
        refine va_get (D := rD g) (ci := 3) (v := .ref (ad (qO U4 52 9))) (C := RX3) (T := TX3) (N := 16) hx hb hts inX3 hown hR.K hR.P 52 (hR.at43 (hR.w.2.1 _ finC_30).2.1) rfl 9 (by decide) (hts _ kw_866) (fun _ h9 => h9) (congrArg (fun z => some (vf ad z)) (hR.w.ptr ptrC_29)) dX3_dominatorCount_14 ?_
        refine lv_iload_n hx hb dX3_dominatorCount_17 rfl (lv_at hl 1 rfl) ?_
        refine lv_aload_n hx hb dX3_dominatorCount_18 rfl (lv_at hl 0 rfl) ?_
        refine va_get (D := rD g) (ci := 3) (v := .int (qI U4 52 10)) (C := RX3) (T := TX3) (N := 16) hx hb hts inX3 hown hR.K hR.P 52 (hR.at43 (hR.w.2.1 _ finC_30).2.1) rfl 10 (by decide) (hts _ kw_867) (fun _ h9 => h9) rfl dX3_dominatorCount_19 ?_
        refine lv_imul hx hb dX3_dominatorCount_22 ?_
        refine lv_topi (fun z3 ez3 => ?_)
        obtain rfl : z3 = (v4_1 * (qI U4 52 10)) := ez3
        refine lv_iload_n hx hb dX3_dominatorCount_23 rfl (lv_at hl 3 rfl) ?_
        refine lv_iadd hx hb dX3_dominatorCount_24 ?_
        refine lv_topi (fun z4 ez4 => ?_)
        obtain rfl : z4 = ((v4_1 * (qI U4 52 10)) + v4_3) := ez4
        obtain ⟨hv5, h⟩ := h
        refine va_lald hx hb hR.K hR.P (qO U4 52 9) 3 (hR.atL hT_b2 (by decide)) rfl (k_ix (x := ((v4_1 * (qI U4 52 10)) + v4_3)) (a := ((v4_1 * (qI U4 52 10)) + v4_3).toInt) rfl hv5) dX3_dominatorCount_25 ?_
        refine lv_topl (fun z6 ez6 => ?_)
        obtain rfl : z6 = (qJ U4 (qO U4 52 9) ((((v4_1 * (qI U4 52 10)) + v4_3).toInt).toNat)) := ez6
        obtain ⟨hv7, h⟩ := h
        have hFc := cfree hR hA
        refine va_calli (va_runS (As := [.long (qJ U4 (qO U4 52 9) ((((v4_1 * (qI U4 52 10)) + v4_3).toInt).toNat))]) (rest := [.int v4_2]) ⟨hx, hb, hml, hown, hts⟩ (rJ13_bitCount_95d88 l g ad H.size U4 (qJ U4 (qO U4 52 9) ((((v4_1 * (qI U4 52 10)) + v4_3).toInt).toNat)) hR.w  hv7) (va_cwS 1 hts (gd_S kw_871 kw_1733 kw_1720 kw_1732) rfl rfl rfl (by decide +kernel) ⟨Nat.le_of_ble_eq_true rfl, Nat.le_of_ble_eq_true rfl⟩) ⟨cblind, fun U hU hW9 => cmk hU hW9 hR hex hE hFc⟩ rfl rfl hl.1 rfl (lv_room (Nat.le_of_ble_eq_true rfl)) dX3_dominatorCount_26 ⟨Nat.le_of_ble_eq_true rfl, Nat.le_of_ble_eq_true rfl⟩) hR.sS (fun q _ h => hFc q h) hFc (fun r8 u9 t9 H1 locs ht9 hvm9 hw9 hB9 hz9 hk9 hS => ?_)
        have hR : RepC g ad A s U4 H1 locs := hR.call ht9 hB9 hR.w hS hFc
        obtain rfl : r8 = (fJ13_bitCount_95d88 U4 (qJ U4 (qO U4 52 9) ((((v4_1 * (qI U4 52 10)) + v4_3).toInt).toNat))) := hw9
        clear hB9 hz9 hk9 hvm9 ht9 hS
        generalize H1 = H at hR ⊢
        refine lv_iadd hx hb dX3_dominatorCount_29 ?_
        refine lv_topi (fun z10 ez10 => ?_)
        obtain rfl : z10 = (v4_2 + (fJ13_bitCount_95d88 U4 (qJ U4 (qO U4 52 9) ((((v4_1 * (qI U4 52 10)) + v4_3).toInt).toNat)))) := ez10
        obtain ⟨a11, ea11⟩ : ∃ z, z = (v4_2 + (fJ13_bitCount_95d88 U4 (qJ U4 (qO U4 52 9) ((((v4_1 * (qI U4 52 10)) + v4_3).toInt).toNat)))) := ⟨_, rfl⟩
        rw [← ea11]
        replace h := h a11 ea11
        refine lv_istore_n (lv' := [(2, .int a11), (0, .ref (ad 52)), (1, .int v4_1), (3, .int v4_3)]) hx hb dX3_dominatorCount_30 rfl hl (by decide) rfl (fun ls hl => ?_)
        obtain ⟨a12, ea12⟩ : ∃ z, z = (v4_3 + Int32.ofInt 1) := ⟨_, rfl⟩
        replace h := h a12 ea12
        refine lv_iinc (v := a12) (lv' := [(3, .int a12), (2, .int a11), (0, .ref (ad 52)), (1, .int v4_1)]) hx hb dX3_dominatorCount_31 hl (k := 3) rfl ea12.symm (by decide) rfl (fun ls hl => ?_)
        refine lv_goto (tgt := 4) hx hb dX3_dominatorCount_34 (by decide) ?_
        exact ih_4 U4 v4_1 a11 a12 _ _ ls h  hsh hR (lv_sub hl [2, 3, 1, 0] rfl)
  obtain ⟨n9, h⟩ := h
  exact J_4 n9 S x1 0 0 _ _ ls h  hsh hR (lv_sub hl [2, 3, 1, 0] rfl)
def w_X3_nearestDominator_J43 (Q : Int32 → MS → Prop) (k10 : MS → Int32 → Int32 → Int32 → Prop) (U43 : MS) (v43_1 : Int32) (v43_2 : Int32) (v43_3 : Int32) : Prop := (wfC U43 → (∀ a8 : Int32, a8 = (v43_3 + Int32.ofInt 1) → k10 U43 v43_1 v43_2 a8))
def w_X3_nearestDominator_L10 (Q : Int32 → MS → Prop) : Nat → MS → Int32 → Int32 → Int32 → Prop
  | 0, _, _, _, _ => False
  | n10 + 1, U10, v10_1, v10_2, v10_3 => (wfC U10 → (((qI U10 52 1).toInt ≤ v10_3.toInt → Q (-1 : Int32) U10) ∧ (¬ (qI U10 52 1).toInt ≤ v10_3.toInt → ((v10_3.toInt = v10_1.toInt → w_X3_nearestDominator_J43 Q (w_X3_nearestDominator_L10 Q n10) U10 v10_1 v10_2 v10_3) ∧ (¬ v10_3.toInt = v10_1.toInt → (d_X3_dominates U10 v10_3 v10_1 ∧ (((fX3_dominates U10 v10_3 v10_1).toInt = 0 → w_X3_nearestDominator_J43 Q (w_X3_nearestDominator_L10 Q n10) U10 v10_1 v10_2 v10_3) ∧ (¬ (fX3_dominates U10 v10_3 v10_1).toInt = 0 → (∃ Q14, wX3_dominatorCount U10 v10_3 Q14 ∧ ∀ r15 S16, Q14 r15 S16 → wfC S16 → shy U10 S16 → ((r15.toInt = v10_2.toInt → Q v10_3 S16) ∧ (¬ r15.toInt = v10_2.toInt → w_X3_nearestDominator_J43 Q (w_X3_nearestDominator_L10 Q n10) S16 v10_1 v10_2 v10_3)))))))))))
def wX3_nearestDominator (S : MS) (x1 : Int32) (Q : Int32 → MS → Prop) : Prop := (∃ Q1, wX3_dominatorCount S x1 Q1 ∧ ∀ r2 S3, Q1 r2 S3 → wfC S3 → shy S S3 → (∀ a6 : Int32, a6 = (r2 - (1 : Int32)) → (∃ n, w_X3_nearestDominator_L10 Q n S3 x1 a6 0)))
set_option maxHeartbeats 2000000 in
set_option maxRecDepth 100000 in
theorem rX3_nearestDominator (l : Launch) (g : Gr) (ad : Nat → Nat) (sz : Nat) (S : MS) (x1 : Int32) (hw : wfC S) (Q : Int32 → MS → Prop) (h : wX3_nearestDominator S x1 Q) : Met l yX3_nearestDominator (wt yX3_nearestDominator cX3_nearestDominator 4 (some .int)) ({ frames := 2, cells := 0, slots := 0, locals := 44 }) (va_Pc [.ref (ad 52), .int x1] (st_C g ad sz S)) (va_Qi (fun (r : Int32) (u : MS) => Q r u ∧ wfC u ∧ shy S u) (fun (u : MS) (t : State) => qEC g ad (va_A (WdC g ad S) sz) u t) (va_A (WdC g ad S) sz)) 0 0 (va_A (WdC g ad S) sz) := by
  refine Met.ofW (cc := cX3_nearestDominator) (maxL := 4) (ret := (some .int)) (by decide) rfl ?_
  intro p e s m args below meth c s₁ B hml hv
  obtain ⟨rfl, hsz, hP, hK, hD0, hex, hE⟩ := hv
  have hx := B.exec
  have hb := B.bytes
  have hr := B.returns
  have hts0 := atoms_spec (ws := wt yX3_nearestDominator cX3_nearestDominator 4 (some .int)) B.pre
  have hts : ∀ w ∈ tb, w.before _ s = true := fun w h => hts0 w (List.mem_cons_of_mem _ h)
  have hown : s.vm.findClass RX3 = some m.cls := findClass_of_methodNamed B.named
  subst hsz
  have hD := hD0.self (sz := s.heap.size)
  generalize hAe : va_A (WdC g ad S) s.heap.size = A at hD hE ⊢
  have hA : ∀ q : Nat, s.heap.size ≤ q → A q := fun q h => by rw [← hAe]; exact Or.inr h
  have hR : RepC g ad A s S s.heap [] := ⟨hK, hP, hD, va_S.rf, hw⟩
  clear hK hP hD hD0
  have hl := lv_entry ([.ref (ad 52), .int x1]) (n := 4) (Nat.le_of_ble_eq_true rfl)
  rw [lg_entry_eq]
  generalize (lg_sl ([.ref (ad 52), .int x1]) ++ List.replicate (4 - (lg_sl ([.ref (ad 52), .int x1])).length) Slot.unset).toArray = ls at hl ⊢
  have hl : lv_has ls 4 [(0, .ref (ad 52)), (1, .int x1)] := hl
  have hsh : shy S S := shy.rf
  unfold wX3_nearestDominator at h
  refine lv_aload_n hx hb dX3_nearestDominator_0 rfl (lv_at hl 0 rfl) ?_
  refine lv_iload_n hx hb dX3_nearestDominator_1 rfl (lv_at hl 1 rfl) ?_
  obtain ⟨Q1, h0, h⟩ := h
  have hFc := cfree hR hA
  refine va_calli (va_runV (As := [.int x1]) (rest := []) ⟨hx, hb, hml, hown, hts⟩ (rX3_dominatorCount l g ad s.heap.size S x1 hR.w  Q1 h0) (cwV 1 hts (gd_V kw_944 kw_869 kw_870 kw_401 kw_868) rfl rfl rfl (by decide +kernel) ⟨Nat.le_of_ble_eq_true rfl, Nat.le_of_ble_eq_true rfl⟩) ⟨cblind, va_recv hR.K hR.P (ci := 3) (q0 := 52) rfl (hR.at43 (hR.w.2.1 _ finC_30).2.1), fun U hU hW9 => cmk hU hW9 hR hex hE hFc⟩ rfl rfl hl.1 rfl (lv_room (Nat.le_of_ble_eq_true rfl)) dX3_nearestDominator_2 ⟨Nat.le_of_ble_eq_true rfl, Nat.le_of_ble_eq_true rfl⟩) hR.sS (fun q _ h => hFc q h) hFc (fun r2 S3 t9 H1 locs ht9 hvm9 hw9 hB9 hz9 hk9 hS => ?_)
  obtain ⟨hq4, hw9, hs9⟩ := hw9
  have hR : RepC g ad A s S3 H1 locs := hR.call ht9 hB9 hw9 hS hFc
  have hsh := hsh.tr hs9
  replace h := h r2 S3 hq4 hw9 hs9
  clear hB9 hz9 hk9 hvm9 ht9 hw9 hs9 hS
  generalize H1 = H at hR ⊢
  refine lv_iconst (v := 1) hx hb dX3_nearestDominator_5 (by decide) ?_
  refine lv_isub hx hb dX3_nearestDominator_6 ?_
  refine lv_topi (fun z5 ez5 => ?_)
  obtain rfl : z5 = (r2 - (1 : Int32)) := ez5
  obtain ⟨a6, ea6⟩ : ∃ z, z = (r2 - (1 : Int32)) := ⟨_, rfl⟩
  rw [← ea6]
  replace h := h a6 ea6
  refine lv_istore_n (lv' := [(2, .int a6), (0, .ref (ad 52)), (1, .int x1)]) hx hb dX3_nearestDominator_7 rfl hl (by decide) rfl (fun ls hl => ?_)
  refine lv_iconst (v := 0) hx hb dX3_nearestDominator_8 (by decide) ?_
  refine lv_istore_n (lv' := [(3, .int 0), (2, .int a6), (0, .ref (ad 52)), (1, .int x1)]) hx hb dX3_nearestDominator_9 rfl hl (by decide) rfl (fun ls hl => ?_)
  have J_10 : ∀ (n10 : Nat) (U10 : MS) (v10_1 : Int32) (v10_2 : Int32) (v10_3 : Int32) (H : Heap) (locs : List Loc) (ls : Array Slot), w_X3_nearestDominator_L10 Q n10 U10 v10_1 v10_2 v10_3 → shy S U10 → RepC g ad A s U10 H locs → lv_has ls 4 [(0, .ref (ad 52)), (1, .int v10_1), (2, .int v10_2), (3, .int v10_3)] → W p l e (headSpec (wt yX3_nearestDominator cX3_nearestDominator 4 (some .int)) ({ frames := 2, cells := 0, slots := 0, locals := 44 })).room s m ([.ref (ad 52), .int x1] : List Value).toArray below meth c H locs 0 0 (MQ below (va_Qi (fun (r : Int32) (u : MS) => Q r u ∧ wfC u ∧ shy S u) (fun (u : MS) (t : State) => qEC g ad A u t) A) ([.ref (ad 52), .int x1] : List Value).toArray s 0 0 A) (F0 m 10 ls []) := by
    intro n10
    induction n10 with
    | zero => intro U10 v10_1 v10_2 v10_3 H locs ls h hsh hR hl; unfold w_X3_nearestDominator_L10 at h; exact h.elim
    | succ n10 ih_10 =>
      intro U10 v10_1 v10_2 v10_3 H locs ls h hsh hR hl
      unfold w_X3_nearestDominator_L10 at h
      replace h := h hR.w
      refine lv_iload_n hx hb dX3_nearestDominator_10 rfl (lv_at hl 3 rfl) ?_
      refine lv_aload_n hx hb dX3_nearestDominator_11 rfl (lv_at hl 0 rfl) ?_
      refine va_get (D := rD g) (ci := 3) (v := .int (qI U10 52 1)) (C := RX3) (T := TX3) (N := 16) hx hb hts inX3 hown hR.K hR.P 52 (hR.at43 (hR.w.2.1 _ finC_30).2.1) rfl 1 (by decide) (hts _ kw_851) (fun _ h9 => h9) rfl dX3_nearestDominator_12 ?_
      refine lv_icmp_ge (tgt := 49) hx hb dX3_nearestDominator_15 (by decide) (fun c7 => ?_) (fun c7 => ?_)
      · replace h := h.1 (k_le rfl rfl c7)
        refine lv_iconst (v := (-1)) hx hb dX3_nearestDominator_49 (by decide) ?_
        exact W.iret (v := (-1)) hx hb hr (fun t9 ht9 hW9 => ⟨⟨_, U10, rfl, ⟨h, hR.w, hsh⟩, ⟨by rw [ht9]; exact hR.P, hR.D⟩⟩, hR.sS.F ht9⟩) hR.sS.2.2 dX3_nearestDominator_50
      · replace h := h.2 (k_nle rfl rfl c7)
        refine lv_iload_n hx hb dX3_nearestDominator_18 rfl (lv_at hl 3 rfl) ?_
        refine lv_iload_n hx hb dX3_nearestDominator_19 rfl (lv_at hl 1 rfl) ?_
        have J_43 : ∀ (U43 : MS) (v43_1 : Int32) (v43_2 : Int32) (v43_3 : Int32) (H : Heap) (locs : List Loc) (ls : Array Slot), w_X3_nearestDominator_J43 Q (w_X3_nearestDominator_L10 Q n10) U43 v43_1 v43_2 v43_3 → shy S U43 → RepC g ad A s U43 H locs → lv_has ls 4 [(0, .ref (ad 52)), (1, .int v43_1), (2, .int v43_2), (3, .int v43_3)] → W p l e (headSpec (wt yX3_nearestDominator cX3_nearestDominator 4 (some .int)) ({ frames := 2, cells := 0, slots := 0, locals := 44 })).room s m ([.ref (ad 52), .int x1] : List Value).toArray below meth c H locs 0 0 (MQ below (va_Qi (fun (r : Int32) (u : MS) => Q r u ∧ wfC u ∧ shy S u) (fun (u : MS) (t : State) => qEC g ad A u t) A) ([.ref (ad 52), .int x1] : List Value).toArray s 0 0 A) (F0 m 43 ls []) := by
          intro U43 v43_1 v43_2 v43_3 H locs ls h hsh hR hl
          unfold w_X3_nearestDominator_J43 at h
          replace h := h hR.w
          obtain ⟨a8, ea8⟩ : ∃ z, z = (v43_3 + Int32.ofInt 1) := ⟨_, rfl⟩
          replace h := h a8 ea8
          refine lv_iinc (v := a8) (lv' := [(3, .int a8), (0, .ref (ad 52)), (1, .int v43_1), (2, .int v43_2)]) hx hb dX3_nearestDominator_43 hl (k := 3) rfl ea8.symm (by decide) rfl (fun ls hl => ?_)
          refine lv_goto (tgt := 10) hx hb dX3_nearestDominator_46 (by decide) ?_
          exact ih_10 U43 v43_1 v43_2 a8 _ _ ls h  hsh hR (lv_sub hl [1, 2, 3, 0] rfl)
        refine lv_icmp_eq (tgt := 43) hx hb dX3_nearestDominator_20 (by decide) (fun c9 => ?_) (fun c9 => ?_)
        · replace h := h.1 (k_eq rfl rfl c9)
          exact J_43 U10 v10_1 v10_2 v10_3 _ _ ls h  hsh hR (lv_sub hl [0, 1, 2, 3] rfl)
        · replace h := h.2 (k_ne rfl rfl c9)
          refine lv_aload_n hx hb dX3_nearestDominator_23 rfl (lv_at hl 0 rfl) ?_
          refine lv_iload_n hx hb dX3_nearestDominator_24 rfl (lv_at hl 3 rfl) ?_
          refine lv_iload_n hx hb dX3_nearestDominator_25 rfl (lv_at hl 1 rfl) ?_
          obtain ⟨hv10, h⟩ := h
          have hFc := cfree hR hA
          refine va_calli (va_runV (As := [.int v10_3, .int v10_1]) (rest := []) ⟨hx, hb, hml, hown, hts⟩ (rX3_dominates l g ad H.size U10 v10_3 v10_1 hR.w  hv10) (cwV 2 hts (gd_V kw_849 kw_864 kw_865 kw_401 kw_863) rfl rfl rfl (by decide +kernel) ⟨Nat.le_of_ble_eq_true rfl, Nat.le_of_ble_eq_true rfl⟩) ⟨cblind, va_recv hR.K hR.P (ci := 3) (q0 := 52) rfl (hR.at43 (hR.w.2.1 _ finC_30).2.1), fun U hU hW9 => cmk hU hW9 hR hex hE hFc⟩ rfl rfl hl.1 rfl (lv_room (Nat.le_of_ble_eq_true rfl)) dX3_nearestDominator_26 ⟨Nat.le_of_ble_eq_true rfl, Nat.le_of_ble_eq_true rfl⟩) hR.sS (fun q _ h => hFc q h) hFc (fun r11 u9 t9 H1 locs ht9 hvm9 hw9 hB9 hz9 hk9 hS => ?_)
          have hR : RepC g ad A s U10 H1 locs := hR.call ht9 hB9 hR.w hS hFc
          obtain ⟨rfl, hz_r11⟩ := hw9
          clear hB9 hz9 hk9 hvm9 ht9 hS
          generalize H1 = H at hR ⊢
          refine lv_if_eq (tgt := 43) hx hb dX3_nearestDominator_29 (by decide) (fun c13 => ?_) (fun c13 => ?_)
          · replace h := h.1 (k_eq rfl (by decide) c13)
            exact J_43 U10 v10_1 v10_2 v10_3 _ _ ls h  hsh hR (lv_sub hl [0, 1, 2, 3] rfl)
          · replace h := h.2 (k_ne rfl (by decide) c13)
            refine lv_aload_n hx hb dX3_nearestDominator_32 rfl (lv_at hl 0 rfl) ?_
            refine lv_iload_n hx hb dX3_nearestDominator_33 rfl (lv_at hl 3 rfl) ?_
            obtain ⟨Q14, h0, h⟩ := h
            have hFc := cfree hR hA
            refine va_calli (va_runV (As := [.int v10_3]) (rest := []) ⟨hx, hb, hml, hown, hts⟩ (rX3_dominatorCount l g ad H.size U10 v10_3 hR.w  Q14 h0) (cwV 1 hts (gd_V kw_944 kw_869 kw_870 kw_401 kw_868) rfl rfl rfl (by decide +kernel) ⟨Nat.le_of_ble_eq_true rfl, Nat.le_of_ble_eq_true rfl⟩) ⟨cblind, va_recv hR.K hR.P (ci := 3) (q0 := 52) rfl (hR.at43 (hR.w.2.1 _ finC_30).2.1), fun U hU hW9 => cmk hU hW9 hR hex hE hFc⟩ rfl rfl hl.1 rfl (lv_room (Nat.le_of_ble_eq_true rfl)) dX3_nearestDominator_34 ⟨Nat.le_of_ble_eq_true rfl, Nat.le_of_ble_eq_true rfl⟩) hR.sS (fun q _ h => hFc q h) hFc (fun r15 S16 t9 H1 locs ht9 hvm9 hw9 hB9 hz9 hk9 hS => ?_)
            obtain ⟨hq17, hw9, hs9⟩ := hw9
            have hR : RepC g ad A s S16 H1 locs := hR.call ht9 hB9 hw9 hS hFc
            have hsh := hsh.tr hs9
            replace h := h r15 S16 hq17 hw9 hs9
            clear hB9 hz9 hk9 hvm9 ht9 hw9 hs9 hS
            generalize H1 = H at hR ⊢
            refine lv_iload_n hx hb dX3_nearestDominator_37 rfl (lv_at hl 2 rfl) ?_
            refine lv_icmp_ne (tgt := 43) hx hb dX3_nearestDominator_38 (by decide) (fun c18 => ?_) (fun c18 => ?_)
            · replace h := h.2 (k_ne rfl rfl c18)
              exact J_43 S16 v10_1 v10_2 v10_3 _ _ ls h  hsh hR (lv_sub hl [0, 1, 2, 3] rfl)
            · replace h := h.1 (k_eq rfl rfl c18)
              refine lv_iload_n hx hb dX3_nearestDominator_41 rfl (lv_at hl 3 rfl) ?_
              exact W.iret (v := v10_3) hx hb hr (fun t9 ht9 hW9 => ⟨⟨_, S16, rfl, ⟨h, hR.w, hsh⟩, ⟨by rw [ht9]; exact hR.P, hR.D⟩⟩, hR.sS.F ht9⟩) hR.sS.2.2 dX3_nearestDominator_42
  obtain ⟨n9, h⟩ := h
  exact J_10 n9 S3 x1 a6 0 _ _ ls h  hsh hR (lv_sub hl [2, 3, 1, 0] rfl)
def wX3_addToLoop (S : MS) (x1 : Int32) (x2 : Int32) (x3 : Int32) (Q : Int32 → MS → Prop) : Prop := (((0 : Int) ≤ x2.toInt ∧ x2.toInt < (qN S (qO S 52 8) : Int)) ∧ (((qI S (qO S 52 8) x2.toInt.toNat).toInt = 0 → Q x3 S) ∧ (¬ (qI S (qO S 52 8) x2.toInt.toNat).toInt = 0 → (((0 : Int) ≤ x2.toInt ∧ x2.toInt < (qN S (qO S 52 14) : Int)) ∧ (((qI S (qO S 52 14) x2.toInt.toNat).toInt = x1.toInt → Q x3 S) ∧ (¬ (qI S (qO S 52 14) x2.toInt.toNat).toInt = x1.toInt → ((x3.toInt < (qN S (qO S 52 15) : Int) → (((0 : Int) ≤ x2.toInt ∧ x2.toInt < (qN S (qO S 52 14) : Int)) ∧ (∀ S15, S15 = wI S (qO S 52 14) x2.toInt.toNat x1 → qT S (qO S 52 14) = 211 → wfC S15 → (((0 : Int) ≤ x2.toInt ∧ x2.toInt < (qN S15 (qO S15 52 13) : Int)) ∧ (((0 : Int) ≤ x2.toInt ∧ x2.toInt < (qN S15 (qO S15 52 13) : Int)) ∧ (∀ S21, S21 = wI S15 (qO S15 52 13) x2.toInt.toNat ((qI S15 (qO S15 52 13) x2.toInt.toNat) + (1 : Int32)) → qT S15 (qO S15 52 13) = 210 → wfC S21 → (((0 : Int) ≤ x3.toInt ∧ x3.toInt < (qN S21 (qO S21 52 15) : Int)) ∧ (∀ S24, S24 = wI S21 (qO S21 52 15) x3.toInt.toNat x2 → qT S21 (qO S21 52 15) = 212 → wfC S24 → Q (x3 + (1 : Int32)) S24)))))))) ∧ (¬ x3.toInt < (qN S (qO S 52 15) : Int) → Q x3 S))))))))
set_option maxHeartbeats 2000000 in
set_option maxRecDepth 100000 in
theorem rX3_addToLoop (l : Launch) (g : Gr) (ad : Nat → Nat) (sz : Nat) (S : MS) (x1 : Int32) (x2 : Int32) (x3 : Int32) (hw : wfC S) (Q : Int32 → MS → Prop) (h : wX3_addToLoop S x1 x2 x3 Q) : Met l yX3_addToLoop (wt yX3_addToLoop cX3_addToLoop 4 (some .int)) ({ frames := 0, cells := 0, slots := 0, locals := 0 }) (va_Pc [.ref (ad 52), .int x1, .int x2, .int x3] (st_C g ad sz S)) (va_Qi (fun (r : Int32) (u : MS) => Q r u ∧ wfC u ∧ shy S u) (fun (u : MS) (t : State) => qEC g ad (va_A (WdC g ad S) sz) u t) (va_A (WdC g ad S) sz)) 0 0 (va_A (WdC g ad S) sz) := by
  refine Met.ofW (cc := cX3_addToLoop) (maxL := 4) (ret := (some .int)) (by decide) rfl ?_
  intro p e s m args below meth c s₁ B hml hv
  obtain ⟨rfl, hsz, hP, hK, hD0, hex, hE⟩ := hv
  have hx := B.exec
  have hb := B.bytes
  have hr := B.returns
  have hts0 := atoms_spec (ws := wt yX3_addToLoop cX3_addToLoop 4 (some .int)) B.pre
  have hts : ∀ w ∈ tb, w.before _ s = true := fun w h => hts0 w (List.mem_cons_of_mem _ h)
  have hown : s.vm.findClass RX3 = some m.cls := findClass_of_methodNamed B.named
  subst hsz
  have hD := hD0.self (sz := s.heap.size)
  generalize hAe : va_A (WdC g ad S) s.heap.size = A at hD hE ⊢
  have hA : ∀ q : Nat, s.heap.size ≤ q → A q := fun q h => by rw [← hAe]; exact Or.inr h
  have hR : RepC g ad A s S s.heap [] := ⟨hK, hP, hD, va_S.rf, hw⟩
  clear hK hP hD hD0
  have hl := lv_entry ([.ref (ad 52), .int x1, .int x2, .int x3]) (n := 4) (Nat.le_of_ble_eq_true rfl)
  rw [lg_entry_eq]
  generalize (lg_sl ([.ref (ad 52), .int x1, .int x2, .int x3]) ++ List.replicate (4 - (lg_sl ([.ref (ad 52), .int x1, .int x2, .int x3])).length) Slot.unset).toArray = ls at hl ⊢
  have hl : lv_has ls 4 [(0, .ref (ad 52)), (1, .int x1), (2, .int x2), (3, .int x3)] := hl
  have hsh : shy S S := shy.rf
  unfold wX3_addToLoop at h
  refine lv_aload_n hx hb dX3_addToLoop_0 rfl (lv_at hl 0 rfl) ?_
  have hT_b1 : qT S (qO S 52 8) = 303 := hR.w.ref (hR.w.ptr ptrC_28) (hR.w.2.1 _ finC_30).2.1
  refine va_get (D := rD g) (ci := 3) (v := .ref (ad (qO S 52 8))) (C := RX3) (T := TX3) (N := 16) hx hb hts inX3 hown hR.K hR.P 52 (hR.at43 (hR.w.2.1 _ finC_30).2.1) rfl 8 (by decide) (hts _ kw_847) (fun _ h9 => h9) (congrArg (fun z => some (vf ad z)) (hR.w.ptr ptrC_28)) dX3_addToLoop_1 ?_
  refine lv_iload_n hx hb dX3_addToLoop_4 rfl (lv_at hl 2 rfl) ?_
  obtain ⟨hv2, h⟩ := h
  refine va_zald hx hb hR.K hR.P (qO S 52 8) 2 (hR.atZ hT_b1 (by decide)) rfl (k_ix (x := x2) (a := x2.toInt) rfl hv2) dX3_addToLoop_5 ?_
  refine lv_topi (fun z3 ez3 => ?_)
  obtain rfl : z3 = (qI S (qO S 52 8) x2.toInt.toNat) := ez3
  have hz4 := hR.w.bit3 (b := (qO S 52 8)) (j := x2.toInt.toNat) (hT_b1) (by decide)
  refine lv_if_eq (tgt := 28) hx hb dX3_addToLoop_6 (by decide) (fun c5 => ?_) (fun c5 => ?_)
  · replace h := h.1 (k_eq rfl (by decide) c5)
    refine lv_iload_n hx hb dX3_addToLoop_28 rfl (lv_at hl 3 rfl) ?_
    exact W.iret (v := x3) hx hb hr (fun t9 ht9 hW9 => ⟨⟨_, S, rfl, ⟨h, hR.w, hsh⟩, ⟨by rw [ht9]; exact hR.P, hR.D⟩⟩, hR.sS.F ht9⟩) hR.sS.2.2 dX3_addToLoop_29
  · replace h := h.2 (k_ne rfl (by decide) c5)
    refine lv_aload_n hx hb dX3_addToLoop_9 rfl (lv_at hl 0 rfl) ?_
    have hT_b6 : qT S (qO S 52 14) = 211 := hR.w.ref (hR.w.ptr ptrC_33) (hR.w.2.1 _ finC_30).2.1
    refine va_get (D := rD g) (ci := 3) (v := .ref (ad (qO S 52 14))) (C := RX3) (T := TX3) (N := 16) hx hb hts inX3 hown hR.K hR.P 52 (hR.at43 (hR.w.2.1 _ finC_30).2.1) rfl 14 (by decide) (hts _ kw_838) (fun _ h9 => h9) (congrArg (fun z => some (vf ad z)) (hR.w.ptr ptrC_33)) dX3_addToLoop_10 ?_
    refine lv_iload_n hx hb dX3_addToLoop_13 rfl (lv_at hl 2 rfl) ?_
    obtain ⟨hv7, h⟩ := h
    refine va_iald hx hb hR.K hR.P (qO S 52 14) 1 (hR.atI hT_b6 (by decide)) rfl (k_ix (x := x2) (a := x2.toInt) rfl hv7) dX3_addToLoop_14 ?_
    refine lv_topi (fun z8 ez8 => ?_)
    obtain rfl : z8 = (qI S (qO S 52 14) x2.toInt.toNat) := ez8
    refine lv_iload_n hx hb dX3_addToLoop_15 rfl (lv_at hl 1 rfl) ?_
    refine lv_icmp_eq (tgt := 28) hx hb dX3_addToLoop_16 (by decide) (fun c9 => ?_) (fun c9 => ?_)
    · replace h := h.1 (k_eq rfl rfl c9)
      refine lv_iload_n hx hb dX3_addToLoop_28 rfl (lv_at hl 3 rfl) ?_
      exact W.iret (v := x3) hx hb hr (fun t9 ht9 hW9 => ⟨⟨_, S, rfl, ⟨h, hR.w, hsh⟩, ⟨by rw [ht9]; exact hR.P, hR.D⟩⟩, hR.sS.F ht9⟩) hR.sS.2.2 dX3_addToLoop_29
    · replace h := h.2 (k_ne rfl rfl c9)
      refine lv_iload_n hx hb dX3_addToLoop_19 rfl (lv_at hl 3 rfl) ?_
      refine lv_aload_n hx hb dX3_addToLoop_20 rfl (lv_at hl 0 rfl) ?_
      have hT_b10 : qT S (qO S 52 15) = 212 := hR.w.ref (hR.w.ptr ptrC_34) (hR.w.2.1 _ finC_30).2.1
      refine va_get (D := rD g) (ci := 3) (v := .ref (ad (qO S 52 15))) (C := RX3) (T := TX3) (N := 16) hx hb hts inX3 hown hR.K hR.P 52 (hR.at43 (hR.w.2.1 _ finC_30).2.1) rfl 15 (by decide) (hts _ kw_852) (fun _ h9 => h9) (congrArg (fun z => some (vf ad z)) (hR.w.ptr ptrC_34)) dX3_addToLoop_21 ?_
      refine va_alen (v := (Int32.ofNat (qN S (qO S 52 15)))) hx hb hR.K hR.P (qO S 52 15) 1 (hR.atI hT_b10 (by decide)) rfl rfl dX3_addToLoop_24 ?_
      have hln11 : (Int32.ofNat (qN S (qO S 52 15))).toInt = (qN S (qO S 52 15) : Int) := toI_len (hR.w.len9 (hT_b10) (by decide))
      refine lv_icmp_lt (tgt := 30) hx hb dX3_addToLoop_25 (by decide) (fun c12 => ?_) (fun c12 => ?_)
      · replace h := h.1 (k_lt rfl hln11 c12)
        refine lv_aload_n hx hb dX3_addToLoop_30 rfl (lv_at hl 0 rfl) ?_
        have hT_b13 : qT S (qO S 52 14) = 211 := hR.w.ref (hR.w.ptr ptrC_33) (hR.w.2.1 _ finC_30).2.1
        refine va_get (D := rD g) (ci := 3) (v := .ref (ad (qO S 52 14))) (C := RX3) (T := TX3) (N := 16) hx hb hts inX3 hown hR.K hR.P 52 (hR.at43 (hR.w.2.1 _ finC_30).2.1) rfl 14 (by decide) (hts _ kw_838) (fun _ h9 => h9) (congrArg (fun z => some (vf ad z)) (hR.w.ptr ptrC_33)) dX3_addToLoop_31 ?_
        refine lv_iload_n hx hb dX3_addToLoop_34 rfl (lv_at hl 2 rfl) ?_
        refine lv_iload_n hx hb dX3_addToLoop_35 rfl (lv_at hl 1 rfl) ?_
        obtain ⟨hv14, h⟩ := h
        refine va_iast hx hb hR.K hR.P hR.D hR.sS (qO S 52 14) 1 (hR.atI hT_b13 (by decide)) rfl (k_ix (x := x2) (a := x2.toInt) rfl hv14) dX3_addToLoop_36 (fun H locs hP hD hS => ?_)
        have hTk9 : qT S (qO S 52 14) = 211 := hT_b13
        have hR : RepC g ad A s (wI S (qO S 52 14) x2.toInt.toNat x1) H locs := hR.aI hT_b13 (by decide) hP hD hS
        obtain ⟨S15, eS15⟩ : ∃ z, z = wI S (qO S 52 14) x2.toInt.toNat x1 := ⟨_, rfl⟩
        rw [← eS15] at hR
        replace h := h S15 eS15 hTk9 hR.w
        have hsh : shy S S15 := by rw [eS15]; exact hsh
        refine lv_aload_n hx hb dX3_addToLoop_37 rfl (lv_at hl 0 rfl) ?_
        have hT_b16 : qT S15 (qO S15 52 13) = 210 := hR.w.ref (hR.w.ptr ptrC_32) (hR.w.2.1 _ finC_30).2.1
        refine va_get (D := rD g) (ci := 3) (v := .ref (ad (qO S15 52 13))) (C := RX3) (T := TX3) (N := 16) hx hb hts inX3 hown hR.K hR.P 52 (hR.at43 (hR.w.2.1 _ finC_30).2.1) rfl 13 (by decide) (hts _ kw_845) (fun _ h9 => h9) (congrArg (fun z => some (vf ad z)) (hR.w.ptr ptrC_32)) dX3_addToLoop_38 ?_
        refine lv_iload_n hx hb dX3_addToLoop_41 rfl (lv_at hl 2 rfl) ?_
        refine lv_dup2_11 hx hb dX3_addToLoop_42 rfl rfl ?_
        obtain ⟨hv17, h⟩ := h
        refine va_iald hx hb hR.K hR.P (qO S15 52 13) 1 (hR.atI hT_b16 (by decide)) rfl (k_ix (x := x2) (a := x2.toInt) rfl hv17) dX3_addToLoop_43 ?_
        refine lv_topi (fun z18 ez18 => ?_)
        obtain rfl : z18 = (qI S15 (qO S15 52 13) x2.toInt.toNat) := ez18
        refine lv_iconst (v := 1) hx hb dX3_addToLoop_44 (by decide) ?_
        refine lv_iadd hx hb dX3_addToLoop_45 ?_
        refine lv_topi (fun z19 ez19 => ?_)
        obtain rfl : z19 = ((qI S15 (qO S15 52 13) x2.toInt.toNat) + (1 : Int32)) := ez19
        obtain ⟨hv20, h⟩ := h
        refine va_iast hx hb hR.K hR.P hR.D hR.sS (qO S15 52 13) 1 (hR.atI hT_b16 (by decide)) rfl (k_ix (x := x2) (a := x2.toInt) rfl hv20) dX3_addToLoop_46 (fun H locs hP hD hS => ?_)
        have hTk9 : qT S15 (qO S15 52 13) = 210 := hT_b16
        have hR : RepC g ad A s (wI S15 (qO S15 52 13) x2.toInt.toNat ((qI S15 (qO S15 52 13) x2.toInt.toNat) + (1 : Int32))) H locs := hR.aI hT_b16 (by decide) hP hD hS
        obtain ⟨S21, eS21⟩ : ∃ z, z = wI S15 (qO S15 52 13) x2.toInt.toNat ((qI S15 (qO S15 52 13) x2.toInt.toNat) + (1 : Int32)) := ⟨_, rfl⟩
        rw [← eS21] at hR
        replace h := h S21 eS21 hTk9 hR.w
        have hsh : shy S S21 := by rw [eS21]; exact hsh
        refine lv_aload_n hx hb dX3_addToLoop_47 rfl (lv_at hl 0 rfl) ?_
        have hT_b22 : qT S21 (qO S21 52 15) = 212 := hR.w.ref (hR.w.ptr ptrC_34) (hR.w.2.1 _ finC_30).2.1
        refine va_get (D := rD g) (ci := 3) (v := .ref (ad (qO S21 52 15))) (C := RX3) (T := TX3) (N := 16) hx hb hts inX3 hown hR.K hR.P 52 (hR.at43 (hR.w.2.1 _ finC_30).2.1) rfl 15 (by decide) (hts _ kw_852) (fun _ h9 => h9) (congrArg (fun z => some (vf ad z)) (hR.w.ptr ptrC_34)) dX3_addToLoop_48 ?_
        refine lv_iload_n hx hb dX3_addToLoop_51 rfl (lv_at hl 3 rfl) ?_
        refine lv_iload_n hx hb dX3_addToLoop_52 rfl (lv_at hl 2 rfl) ?_
        obtain ⟨hv23, h⟩ := h
        refine va_iast hx hb hR.K hR.P hR.D hR.sS (qO S21 52 15) 1 (hR.atI hT_b22 (by decide)) rfl (k_ix (x := x3) (a := x3.toInt) rfl hv23) dX3_addToLoop_53 (fun H locs hP hD hS => ?_)
        have hTk9 : qT S21 (qO S21 52 15) = 212 := hT_b22
        have hR : RepC g ad A s (wI S21 (qO S21 52 15) x3.toInt.toNat x2) H locs := hR.aI hT_b22 (by decide) hP hD hS
        obtain ⟨S24, eS24⟩ : ∃ z, z = wI S21 (qO S21 52 15) x3.toInt.toNat x2 := ⟨_, rfl⟩
        rw [← eS24] at hR
        replace h := h S24 eS24 hTk9 hR.w
        have hsh : shy S S24 := by rw [eS24]; exact hsh
        refine lv_iload_n hx hb dX3_addToLoop_54 rfl (lv_at hl 3 rfl) ?_
        refine lv_iconst (v := 1) hx hb dX3_addToLoop_55 (by decide) ?_
        refine lv_iadd hx hb dX3_addToLoop_56 ?_
        refine lv_topi (fun z25 ez25 => ?_)
        obtain rfl : z25 = (x3 + (1 : Int32)) := ez25
        exact W.iret (v := (x3 + (1 : Int32))) hx hb hr (fun t9 ht9 hW9 => ⟨⟨_, S24, rfl, ⟨h, hR.w, hsh⟩, ⟨by rw [ht9]; exact hR.P, hR.D⟩⟩, hR.sS.F ht9⟩) hR.sS.2.2 dX3_addToLoop_57
      · replace h := h.2 (k_nlt rfl hln11 c12)
        refine lv_iload_n hx hb dX3_addToLoop_28 rfl (lv_at hl 3 rfl) ?_
        exact W.iret (v := x3) hx hb hr (fun t9 ht9 hW9 => ⟨⟨_, S, rfl, ⟨h, hR.w, hsh⟩, ⟨by rw [ht9]; exact hR.P, hR.D⟩⟩, hR.sS.F ht9⟩) hR.sS.2.2 dX3_addToLoop_29
def w_X4_makeRoom_L54 (Q : MS → Prop) : Nat → MS → Nat → Int32 → Prop
  | 0, _, _, _ => False
  | n54 + 1, U54, v54_0, v54_2 => (wfC U54 → qT U54 v54_0 = 44 → ((qR U54 v54_0 2 = some (qO U54 v54_0 2)) ∧ (((qN U54 (qO U54 v54_0 2) : Int) ≤ v54_2.toInt → Q U54) ∧ (¬ (qN U54 (qO U54 v54_0 2) : Int) ≤ v54_2.toInt → ((qR U54 v54_0 2 = some (qO U54 v54_0 2)) ∧ (((0 : Int) ≤ v54_2.toInt ∧ v54_2.toInt < (qN U54 (qO U54 v54_0 2) : Int)) ∧ (∀ S21, S21 = wI U54 (qO U54 v54_0 2) v54_2.toInt.toNat (vp_nar .boolean (0 : Int32)) → qT U54 (qO U54 v54_0 2) = 304 → wfC S21 → (∀ a22 : Int32, a22 = (v54_2 + Int32.ofInt 1) → (w_X4_makeRoom_L54 Q n54) S21 v54_0 a22))))))))
def w_X4_makeRoom_J36 (Q : MS → Prop) (U36 : MS) (v36_0 : Nat) : Prop := (wfC U36 → qT U36 v36_0 = 44 → ((qR U36 v36_0 0 = some (qO U36 v36_0 0)) ∧ (qT U36 (qO U36 v36_0 0) = 213 → (∃ Q6, wJ7_fill_53178 U36 (qO U36 v36_0 0) (0 : Int32) Q6 ∧ ∀ S7, Q6 S7 → wfC S7 → shy U36 S7 → ((qR S7 v36_0 1 = some (qO S7 v36_0 1)) ∧ (qT S7 (qO S7 v36_0 1) = 214 → (∃ Q11, wJ7_fill_53178 S7 (qO S7 v36_0 1) (0 : Int32) Q11 ∧ ∀ S12, Q11 S12 → wfC S12 → shy S7 S12 → (∃ n, w_X4_makeRoom_L54 Q n S12 v36_0 0))))))))
def wX4_makeRoom (S : MS) (p0 : Nat) (x1 : Int32) (Q : MS → Prop) : Prop := ((qR S p0 0 = some (qO S p0 0)) ∧ ((x1.toInt ≤ (qN S (qO S p0 0) : Int) → w_X4_makeRoom_J36 Q S p0) ∧ (¬ x1.toInt ≤ (qN S (qO S p0 0) : Int) → (((0 : Int) ≤ ((2 : Int32) * x1).toInt ∧ (qn S + 1 ≤ KCC ∧ qu S + ((2 : Int32) * x1).toInt.toNat ≤ KSC)) ∧ (∀ S28, S28 = wN S 213 (((2 : Int32) * x1).toInt.toNat) (((2 : Int32) * x1).toInt.toNat) → wfC S28 → (∀ S30, S30 = wR S28 p0 0 (some (qn S)) → qT S28 p0 = 44 → wfC S30 → (((0 : Int) ≤ ((2 : Int32) * x1).toInt ∧ (qn S30 + 1 ≤ KCC ∧ qu S30 + ((2 : Int32) * x1).toInt.toNat ≤ KSC)) ∧ (∀ S35, S35 = wN S30 214 (((2 : Int32) * x1).toInt.toNat) (((2 : Int32) * x1).toInt.toNat) → wfC S35 → (∀ S37, S37 = wR S35 p0 1 (some (qn S30)) → qT S35 p0 = 44 → wfC S37 → (((0 : Int) ≤ ((2 : Int32) * x1).toInt ∧ (qn S37 + 1 ≤ KCC ∧ qu S37 + ((2 : Int32) * x1).toInt.toNat ≤ KSC)) ∧ (∀ S42, S42 = wN S37 304 (((2 : Int32) * x1).toInt.toNat) (((2 : Int32) * x1).toInt.toNat) → wfC S42 → (∀ S44, S44 = wR S42 p0 2 (some (qn S37)) → qT S42 p0 = 44 → wfC S44 → w_X4_makeRoom_J36 Q S44 p0))))))))))))
set_option maxHeartbeats 2000000 in
set_option maxRecDepth 100000 in
theorem rX4_makeRoom (l : Launch) (g : Gr) (ad : Nat → Nat) (H0 : Heap) (S : MS) (p0 : Nat) (x1 : Int32) (hw : wfC S) (hT_p0 : qT S p0 = 44) (Q : MS → Prop) (h : wX4_makeRoom S p0 x1 Q) : Met l yX4_makeRoom (wt yX4_makeRoom cX4_makeRoom 3 none) ({ frames := 1, cells := KCC - qn S, slots := KSC - qu S, locals := 23 }) (va_Pc [.ref (ad p0), .int x1] (st_CH g ad H0 S)) (va_Qv (fun (u : MS × (Nat → Nat)) => Q u.1 ∧ wfC u.1 ∧ shx S u.1 ∧ adk ad u.2 S) (fun (u : MS × (Nat → Nat)) (t : State) => qEHC g (va_A (WdC g ad S) H0.size) S H0 u t) (va_A (WdC g ad S) H0.size)) (KCC - qn S) (KSC - qu S) (va_A (WdC g ad S) H0.size) := by
  refine Met.ofW (cc := cX4_makeRoom) (maxL := 3) (ret := none) (by decide) rfl ?_
  intro p e s m args below meth c s₁ B hml hv
  obtain ⟨rfl, hH0, hsz, hP, hK, hD0, hex, hE⟩ := hv
  have hx := B.exec
  have hb := B.bytes
  have hr := B.returns
  have hts0 := atoms_spec (ws := wt yX4_makeRoom cX4_makeRoom 3 none) B.pre
  have hts : ∀ w ∈ tb, w.before _ s = true := fun w h => hts0 w (List.mem_cons_of_mem _ h)
  have hown : s.vm.findClass RX4 = some m.cls := findClass_of_methodNamed B.named
  subst hH0
  have hD := hD0.self (sz := s.heap.size)
  generalize hAe : va_A (WdC g ad S) s.heap.size = A at hD hE ⊢
  have hA : ∀ q : Nat, s.heap.size ≤ q → A q := fun q h => by rw [← hAe]; exact Or.inr h
  have hR : RepC g ad A s S s.heap [] := ⟨hK, hP, hD, va_S.rf, hw⟩
  clear hK hP hD hD0
  have hl := lv_entry ([.ref (ad p0), .int x1]) (n := 3) (Nat.le_of_ble_eq_true rfl)
  rw [lg_entry_eq]
  generalize (lg_sl ([.ref (ad p0), .int x1]) ++ List.replicate (3 - (lg_sl ([.ref (ad p0), .int x1])).length) Slot.unset).toArray = ls at hl ⊢
  have hlg : lgC S S 0 0 := lgC.rf
  have hak : adk ad ad S := adk.rf
  have hl : lv_has ls 3 [(0, .ref (ad p0)), (1, .int x1)] := hl
  have hsh : shx S S := shx.rf
  unfold wX4_makeRoom at h
  refine lv_aload_n hx hb dX4_makeRoom_0 rfl (lv_at hl 0 rfl) ?_
  obtain ⟨hv2, h⟩ := h
  have hT_b1 : qT S (qO S p0 0) = 213 := hR.w.ref hv2 hT_p0
  refine va_get (D := rD g) (ci := 4) (v := .ref (ad (qO S p0 0))) (C := RX4) (T := TX4) (N := 8) hx hb hts inX4 hown hR.K hR.P p0 (hR.at44 hT_p0) rfl 0 (by decide) (hts _ kw_956) (fun _ h9 => h9) (congrArg (fun z => some (vf ad z)) hv2) dX4_makeRoom_1 ?_
  refine va_alen (v := (Int32.ofNat (qN S (qO S p0 0)))) hx hb hR.K hR.P (qO S p0 0) 1 (hR.atI hT_b1 (by decide)) rfl rfl dX4_makeRoom_4 ?_
  have hln3 : (Int32.ofNat (qN S (qO S p0 0))).toInt = (qN S (qO S p0 0) : Int) := toI_len (hR.w.len9 (hT_b1) (by decide))
  refine lv_iload_n hx hb dX4_makeRoom_5 rfl (lv_at hl 1 rfl) ?_
  have J_36 : ∀ (ad36 : Nat → Nat) (dc36 ds36 : Nat) (U36 : MS) (v36_0 : Nat) (H : Heap) (locs : List Loc) (ls : Array Slot), w_X4_makeRoom_J36 Q U36 v36_0 → qT U36 v36_0 = 44 → shx S U36 → lgC S U36 dc36 ds36 → adk ad ad36 S → ogC ad36 A s s.heap → RepC g ad36 A s U36 H locs → lv_has ls 3 [(0, .ref (ad36 v36_0))] → W p l e (headSpec (wt yX4_makeRoom cX4_makeRoom 3 none) ({ frames := 1, cells := KCC - qn S, slots := KSC - qu S, locals := 23 })).room s m ([.ref (ad p0), .int x1] : List Value).toArray below meth c H locs dc36 ds36 (MQ below (va_Qv (fun (u : MS × (Nat → Nat)) => Q u.1 ∧ wfC u.1 ∧ shx S u.1 ∧ adk ad u.2 S) (fun (u : MS × (Nat → Nat)) (t : State) => qEHC g A S s.heap u t) A) ([.ref (ad p0), .int x1] : List Value).toArray s (KCC - qn S) (KSC - qu S) A) (F0 m 36 ls []) := by
    intro ad36 dc36 ds36 U36 v36_0 H locs ls h hT_v36_0 hsh hlg hak hE hR hl
    unfold w_X4_makeRoom_J36 at h
    replace h := h hR.w hT_v36_0
    refine lv_aload_n hx hb dX4_makeRoom_36 rfl (lv_at hl 0 rfl) ?_
    obtain ⟨hv5, h⟩ := h
    have hT_b4 : qT U36 (qO U36 v36_0 0) = 213 := hR.w.ref hv5 hT_v36_0
    refine va_get (D := rD g) (ci := 4) (v := .ref (ad36 (qO U36 v36_0 0))) (C := RX4) (T := TX4) (N := 8) hx hb hts inX4 hown hR.K hR.P v36_0 (hR.at44 hT_v36_0) rfl 0 (by decide) (hts _ kw_956) (fun _ h9 => h9) (congrArg (fun z => some (vf ad36 z)) hv5) dX4_makeRoom_37 ?_
    refine lv_iconst (v := 0) hx hb dX4_makeRoom_40 (by decide) ?_
    replace h := h (hT_b4)
    obtain ⟨Q6, h0, h⟩ := h
    have hFc := cfree hR hA
    refine va_callv (va_runS (As := [.ref (ad36 (qO U36 v36_0 0)), .int 0]) (rest := []) ⟨hx, hb, hml, hown, hts⟩ (rJ7_fill_53178 l g ad36 H.size U36 (qO U36 v36_0 0) (0 : Int32) hR.w (by decide) hT_b4 Q6 h0) (va_cwS 2 hts (gd_S kw_974 kw_1722 kw_1723 kw_1721) rfl rfl rfl (by decide +kernel) ⟨Nat.le_of_ble_eq_true rfl, Nat.le_of_ble_eq_true rfl⟩) ⟨cblind, fun U hU hW9 => cmk hU hW9 hR hex hE hFc⟩ rfl rfl hl.1 rfl (lv_room (Nat.le_of_ble_eq_true rfl)) dX4_makeRoom_41 ⟨(show dc36 + 0 ≤ KCC - qn S from hlg.c), (show ds36 + 0 ≤ KSC - qu S from hlg.s)⟩) hR.sS (fun q _ h => hFc q h) hFc (fun  S7 t9 H1 locs ht9 hvm9 hw9 hB9 hz9 hk9 hS => ?_)
    obtain ⟨hq8, hw9, hs9⟩ := hw9
    have hR : RepC g ad36 A s S7 H1 locs := hR.call ht9 hB9 hw9 hS hFc
    have hsh := hsh.tr hs9.1
    have hlg : lgC S S7 (dc36) (ds36) := hlg.same hs9
    replace h := h  S7 hq8 hw9 hs9
    have hT_v36_0 := hs9.T hT_v36_0 (by decide)
    clear hB9 hz9 hk9 hvm9 ht9 hw9 hs9 hS
    generalize H1 = H at hR ⊢
    refine lv_aload_n hx hb dX4_makeRoom_44 rfl (lv_at hl 0 rfl) ?_
    obtain ⟨hv10, h⟩ := h
    have hT_b9 : qT S7 (qO S7 v36_0 1) = 214 := hR.w.ref hv10 hT_v36_0
    refine va_get (D := rD g) (ci := 4) (v := .ref (ad36 (qO S7 v36_0 1))) (C := RX4) (T := TX4) (N := 8) hx hb hts inX4 hown hR.K hR.P v36_0 (hR.at44 hT_v36_0) rfl 1 (by decide) (hts _ kw_957) (fun _ h9 => h9) (congrArg (fun z => some (vf ad36 z)) hv10) dX4_makeRoom_45 ?_
    refine lv_iconst (v := 0) hx hb dX4_makeRoom_48 (by decide) ?_
    replace h := h (hT_b9)
    obtain ⟨Q11, h0, h⟩ := h
    have hFc := cfree hR hA
    refine va_callv (va_runS (As := [.ref (ad36 (qO S7 v36_0 1)), .int 0]) (rest := []) ⟨hx, hb, hml, hown, hts⟩ (rJ7_fill_53178 l g ad36 H.size S7 (qO S7 v36_0 1) (0 : Int32) hR.w (by decide) hT_b9 Q11 h0) (va_cwS 2 hts (gd_S kw_974 kw_1722 kw_1723 kw_1721) rfl rfl rfl (by decide +kernel) ⟨Nat.le_of_ble_eq_true rfl, Nat.le_of_ble_eq_true rfl⟩) ⟨cblind, fun U hU hW9 => cmk hU hW9 hR hex hE hFc⟩ rfl rfl hl.1 rfl (lv_room (Nat.le_of_ble_eq_true rfl)) dX4_makeRoom_49 ⟨(show dc36 + 0 ≤ KCC - qn S from hlg.c), (show ds36 + 0 ≤ KSC - qu S from hlg.s)⟩) hR.sS (fun q _ h => hFc q h) hFc (fun  S12 t9 H1 locs ht9 hvm9 hw9 hB9 hz9 hk9 hS => ?_)
    obtain ⟨hq13, hw9, hs9⟩ := hw9
    have hR : RepC g ad36 A s S12 H1 locs := hR.call ht9 hB9 hw9 hS hFc
    have hsh := hsh.tr hs9.1
    have hlg : lgC S S12 (dc36) (ds36) := hlg.same hs9
    replace h := h  S12 hq13 hw9 hs9
    have hT_v36_0 := hs9.T hT_v36_0 (by decide)
    clear hB9 hz9 hk9 hvm9 ht9 hw9 hs9 hS
    generalize H1 = H at hR ⊢
    refine lv_iconst (v := 0) hx hb dX4_makeRoom_52 (by decide) ?_
    refine lv_istore_n (lv' := [(2, .int 0), (0, .ref (ad36 v36_0))]) hx hb dX4_makeRoom_53 rfl hl (by decide) rfl (fun ls hl => ?_)
    have J_54 : ∀ (n54 : Nat) (ad54 : Nat → Nat) (dc54 ds54 : Nat) (U54 : MS) (v54_0 : Nat) (v54_2 : Int32) (H : Heap) (locs : List Loc) (ls : Array Slot), w_X4_makeRoom_L54 Q n54 U54 v54_0 v54_2 → qT U54 v54_0 = 44 → shx S U54 → lgC S U54 dc54 ds54 → adk ad ad54 S → ogC ad54 A s s.heap → RepC g ad54 A s U54 H locs → lv_has ls 3 [(0, .ref (ad54 v54_0)), (2, .int v54_2)] → W p l e (headSpec (wt yX4_makeRoom cX4_makeRoom 3 none) ({ frames := 1, cells := KCC - qn S, slots := KSC - qu S, locals := 23 })).room s m ([.ref (ad p0), .int x1] : List Value).toArray below meth c H locs dc54 ds54 (MQ below (va_Qv (fun (u : MS × (Nat → Nat)) => Q u.1 ∧ wfC u.1 ∧ shx S u.1 ∧ adk ad u.2 S) (fun (u : MS × (Nat → Nat)) (t : State) => qEHC g A S s.heap u t) A) ([.ref (ad p0), .int x1] : List Value).toArray s (KCC - qn S) (KSC - qu S) A) (F0 m 54 ls []) := by
      intro n54
      induction n54 with
      | zero => intro ad54 dc54 ds54 U54 v54_0 v54_2 H locs ls h hT_v54_0 hsh hlg hak hE hR hl; unfold w_X4_makeRoom_L54 at h; exact h.elim
      | succ n54 ih_54 =>
        intro ad54 dc54 ds54 U54 v54_0 v54_2 H locs ls h hT_v54_0 hsh hlg hak hE hR hl
        unfold w_X4_makeRoom_L54 at h
        replace h := h hR.w hT_v54_0
        refine lv_iload_n hx hb dX4_makeRoom_54 rfl (lv_at hl 1 rfl) ?_
        refine lv_aload_n hx hb dX4_makeRoom_55 rfl (lv_at hl 0 rfl) ?_
        obtain ⟨hv15, h⟩ := h
        have hT_b14 : qT U54 (qO U54 v54_0 2) = 304 := hR.w.ref hv15 hT_v54_0
        refine va_get (D := rD g) (ci := 4) (v := .ref (ad54 (qO U54 v54_0 2))) (C := RX4) (T := TX4) (N := 8) hx hb hts inX4 hown hR.K hR.P v54_0 (hR.at44 hT_v54_0) rfl 2 (by decide) (hts _ kw_966) (fun _ h9 => h9) (congrArg (fun z => some (vf ad54 z)) hv15) dX4_makeRoom_56 ?_
        refine va_alen (v := (Int32.ofNat (qN U54 (qO U54 v54_0 2)))) hx hb hR.K hR.P (qO U54 v54_0 2) 2 (hR.atZ hT_b14 (by decide)) rfl rfl dX4_makeRoom_59 ?_
        have hln16 : (Int32.ofNat (qN U54 (qO U54 v54_0 2))).toInt = (qN U54 (qO U54 v54_0 2) : Int) := toI_len (hR.w.len9 (hT_b14) (by decide))
        refine lv_icmp_ge (tgt := 76) hx hb dX4_makeRoom_60 (by decide) (fun c17 => ?_) (fun c17 => ?_)
        · replace h := h.1 (k_le hln16 rfl c17)
          refine W_led2 (fun hLd => ?_)
          refine W.widen (k := KCC - qn S) (n := KSC - qu S) hlg.c hlg.s ?_
          exact W.vret hx hb hr (fun t9 ht9 hW9 => ⟨⟨(U54, ad54), rfl, ⟨h, hR.w, hsh, hak⟩, ⟨⟨by rw [ht9]; exact hR.P, hR.D⟩, _, _, by rw [ht9]; exact hLd, hlg⟩⟩, hR.sS.F ht9⟩) hR.sS.2.2 dX4_makeRoom_76
        · replace h := h.2 (k_nle hln16 rfl c17)
          refine lv_aload_n hx hb dX4_makeRoom_63 rfl (lv_at hl 0 rfl) ?_
          obtain ⟨hv19, h⟩ := h
          have hT_b18 : qT U54 (qO U54 v54_0 2) = 304 := hR.w.ref hv19 hT_v54_0
          refine va_get (D := rD g) (ci := 4) (v := .ref (ad54 (qO U54 v54_0 2))) (C := RX4) (T := TX4) (N := 8) hx hb hts inX4 hown hR.K hR.P v54_0 (hR.at44 hT_v54_0) rfl 2 (by decide) (hts _ kw_966) (fun _ h9 => h9) (congrArg (fun z => some (vf ad54 z)) hv19) dX4_makeRoom_64 ?_
          refine lv_iload_n hx hb dX4_makeRoom_67 rfl (lv_at hl 1 rfl) ?_
          refine lv_iconst (v := 0) hx hb dX4_makeRoom_68 (by decide) ?_
          obtain ⟨hv20, h⟩ := h
          refine va_zast hx hb hR.K hR.P hR.D hR.sS (qO U54 v54_0 2) 2 (hR.atZ hT_b18 (by decide)) rfl (k_ix (x := v54_2) (a := v54_2.toInt) rfl hv20) dX4_makeRoom_69 (fun H locs hP hD hS => ?_)
          have hTk9 : qT U54 (qO U54 v54_0 2) = 304 := hT_b18
          have hR : RepC g ad54 A s (wI U54 (qO U54 v54_0 2) v54_2.toInt.toNat (vp_nar .boolean (0 : Int32))) H locs := hR.aZ hT_b18 (by decide) (bit_nz2 (Or.inl rfl)) hP hD hS
          obtain ⟨S21, eS21⟩ : ∃ z, z = wI U54 (qO U54 v54_0 2) v54_2.toInt.toNat (vp_nar .boolean (0 : Int32)) := ⟨_, rfl⟩
          rw [← eS21] at hR
          replace h := h S21 eS21 hTk9 hR.w
          have hT_v54_0 : qT S21 v54_0 = 44 := (congrArg (fun z => qT z v54_0) eS21).trans hT_v54_0
          have hsh : shx S S21 := by rw [eS21]; exact hsh
          have hlg : lgC S S21 (dc54) (ds54) := by rw [eS21]; exact hlg
          obtain ⟨a22, ea22⟩ : ∃ z, z = (v54_2 + Int32.ofInt 1) := ⟨_, rfl⟩
          replace h := h a22 ea22
          refine lv_iinc (v := a22) (lv' := [(2, .int a22), (0, .ref (ad54 v54_0))]) hx hb dX4_makeRoom_70 hl (k := 1) rfl ea22.symm (by decide) rfl (fun ls hl => ?_)
          refine lv_goto (tgt := 54) hx hb dX4_makeRoom_73 (by decide) ?_
          exact ih_54 ad54 (dc54) (ds54) S21 v54_0 a22 _ _ ls h hT_v54_0 hsh hlg hak hE hR (lv_sub hl [1, 0] rfl)
    obtain ⟨n9, h⟩ := h
    exact J_54 n9 ad36 (dc36) (ds36) S12 v36_0 0 _ _ ls h hT_v36_0 hsh hlg hak hE hR (lv_sub hl [1, 0] rfl)
  refine lv_icmp_ge (tgt := 36) hx hb dX4_makeRoom_6 (by decide) (fun c23 => ?_) (fun c23 => ?_)
  · replace h := h.1 (k_le rfl hln3 c23)
    exact J_36 ad (0) (0) S p0 _ _ ls h hT_p0 hsh hlg hak hE hR (lv_sub hl [0] rfl)
  · replace h := h.2 (k_nle rfl hln3 c23)
    refine lv_aload_n hx hb dX4_makeRoom_9 rfl (lv_at hl 0 rfl) ?_
    refine lv_iconst (v := 2) hx hb dX4_makeRoom_10 (by decide) ?_
    refine lv_iload_n hx hb dX4_makeRoom_11 rfl (lv_at hl 1 rfl) ?_
    refine lv_imul hx hb dX4_makeRoom_12 ?_
    refine lv_topi (fun z24 ez24 => ?_)
    obtain rfl : z24 = ((2 : Int32) * x1) := ez24
    obtain ⟨hv25, h⟩ := h
    have e9 : KCC = 300000 := rfl
    have e8 : KSC = 3553400 := rfl
    have e7 : TXB = 10000000 := rfl
    have hTX : qn S < TXB := by have := hv25.2.1; omega
    refine va_newa (atype := .int) (ty := .int) (a0 := (((2 : Int32) * x1).toInt.toNat, .inl (fun _ => 0))) (N' := ((2 : Int32) * x1).toInt.toNat) hx hb (hts (.arrayClass .int) kw_51) rfl hR.K hR.P hR.D hR.sS hA (fun _ => rfl) (fun q9 => absurd (k_lt (b := 0) rfl (by decide) q9) (Int.not_lt.mpr hv25.1)) rfl (by show (((2 : Int32) * x1).toInt.toNat) * 4 ≤ 536870912; have := hv25.2.2; omega) (show 0 + 1 ≤ KCC - qn S from hlg.c1 hv25.2.1) (show 0 + (((2 : Int32) * x1).toInt.toNat) ≤ KSC - qu S from hlg.s1 hv25.2.2) dX4_makeRoom_13 (fun q26 cA9 H hK9 hP hD hS => ?_)
    obtain rfl := cls_new3 hR.K hK9 (k := 1) rfl (fun _ h => by cases h)
    have hw8 := hR.w
    have hR := hR.new (t := 213) (n := ((2 : Int32) * x1).toInt.toNat) (k := ((2 : Int32) * x1).toInt.toNat) hTX (by decide) (by have := hv25.2.2; omega) (wN_CI (by decide)) hP hD hS
    have hk8 : adk ad (adx ad (qn S) q26) S := adk.rf.new (Nat.le_refl _) hTX
    have hak := hak.new (q := q26) hlg.2.2.1 hTX
    have hE := hE.ad hk8
    have hlg : lgC S (wN S 213 (((2 : Int32) * x1).toInt.toNat) (((2 : Int32) * x1).toInt.toNat)) (0 + 1) (0 + (((2 : Int32) * x1).toInt.toNat)) := hlg.new (t := 213) (n := ((2 : Int32) * x1).toInt.toNat) ⟨hv25.2.1, hv25.2.2⟩
    have hs8 : shx S (wN S 213 (((2 : Int32) * x1).toInt.toNat) (((2 : Int32) * x1).toInt.toNat)) := shx.newC (t := 213) (n := ((2 : Int32) * x1).toInt.toNat) (k := ((2 : Int32) * x1).toInt.toNat) shx.rf hw8 hTX
    obtain ⟨am27, eam27⟩ : ∃ z, z = adx ad (qn S) q26 := ⟨_, rfl⟩
    have eq_q26 : am27 (qn S) = q26 := by rw [eam27]; exact if_pos rfl
    rw [← eam27] at hR hk8 hak hE
    obtain ⟨S28, eS28⟩ : ∃ z, z = wN S 213 (((2 : Int32) * x1).toInt.toNat) (((2 : Int32) * x1).toInt.toNat) := ⟨_, rfl⟩
    rw [← eS28] at hR hlg hs8
    replace h := h S28 eS28 hR.w
    have hsh := hsh.tr hs8
    have hT_b29 : qT S28 (qn S) = 213 := by rw [eS28]; exact if_pos rfl
    have ea_0 : am27 p0 = ad p0 := hk8 _ (hw8.hd hT_p0 (by decide) (by decide))
    have hT_p0 := hs8.T hT_p0 (by decide)
    have hl : lv_has ls 3 [(0, .ref (am27 p0)), (1, .int x1)] := by simp only [ea_0]; exact hl
    refine W.eq (g2 := F0 m 15 ls [.ref (am27 (qn S)), .ref (am27 p0)]) (by simp only [ea_0, eq_q26]) ?_
    clear hw8 hk8 hs8 hP hD hS e9 e8 e7 hTX
    refine va_put (D := rD g) (ci := 4) (v := .ref (am27 (qn S))) (ty := (.array .int)) (C := RX4) (T := TX4) (N := 8) hx hb hts inX4 tyX4 tyX4_ok nmX4 hown hR.K hR.P hR.D hR.sS p0 (hR.at44 hT_p0) rfl 0 (by decide) (hts _ kw_956) (fun _ h9 => h9) rfl (by decide +kernel) rfl rfl (Nat.le_of_ble_eq_true rfl) dX4_makeRoom_15 (fun H locs hP hD hS => ?_)
    have hw9 : wfC (wR S28 p0 0 (some (qn S))) := hR.w.put (fun b q9 => by cases q9; exact (hT_b29).trans (by rw [hT_p0]; rfl)) (hR.w.noown hT_p0 (by decide) (by decide)) (by rw [hT_p0]; decide) (fun b _ q9 => absurd (show otgC (qT S28 p0) 0 = 0 by rw [hT_p0]; decide) q9) (fun _ => Option.some_ne_none _)
    have hTk9 : qT S28 p0 = 44 := hT_p0
    have hR : RepC g am27 A s (wR S28 p0 0 (some (qn S))) H locs := hR.pR44 hT_p0 FX4_s0 hw9 hP hD hS
    obtain ⟨S30, eS30⟩ : ∃ z, z = wR S28 p0 0 (some (qn S)) := ⟨_, rfl⟩
    rw [← eS30] at hR
    replace h := h S30 eS30 hTk9 hR.w
    have hT_p0 : qT S30 p0 = 44 := (congrArg (fun z => qT z p0) eS30).trans hT_p0
    have hsh : shx S S30 := by rw [eS30]; exact hsh
    have hlg : lgC S S30 (0 + 1) (0 + (((2 : Int32) * x1).toInt.toNat)) := by rw [eS30]; exact hlg
    refine lv_aload_n hx hb dX4_makeRoom_18 rfl (lv_at hl 0 rfl) ?_
    refine lv_iconst (v := 2) hx hb dX4_makeRoom_19 (by decide) ?_
    refine lv_iload_n hx hb dX4_makeRoom_20 rfl (lv_at hl 1 rfl) ?_
    refine lv_imul hx hb dX4_makeRoom_21 ?_
    refine lv_topi (fun z31 ez31 => ?_)
    obtain rfl : z31 = ((2 : Int32) * x1) := ez31
    obtain ⟨hv32, h⟩ := h
    have e9 : KCC = 300000 := rfl
    have e8 : KSC = 3553400 := rfl
    have e7 : TXB = 10000000 := rfl
    have hTX : qn S30 < TXB := by have := hv32.2.1; omega
    refine va_newa (atype := .int) (ty := .int) (a0 := (((2 : Int32) * x1).toInt.toNat, .inl (fun _ => 0))) (N' := ((2 : Int32) * x1).toInt.toNat) hx hb (hts (.arrayClass .int) kw_51) rfl hR.K hR.P hR.D hR.sS hA (fun _ => rfl) (fun q9 => absurd (k_lt (b := 0) rfl (by decide) q9) (Int.not_lt.mpr hv32.1)) rfl (by show (((2 : Int32) * x1).toInt.toNat) * 4 ≤ 536870912; have := hv32.2.2; omega) (show 0 + 1 + 1 ≤ KCC - qn S from hlg.c1 hv32.2.1) (show 0 + (((2 : Int32) * x1).toInt.toNat) + (((2 : Int32) * x1).toInt.toNat) ≤ KSC - qu S from hlg.s1 hv32.2.2) dX4_makeRoom_22 (fun q33 cA9 H hK9 hP hD hS => ?_)
    obtain rfl := cls_new3 hR.K hK9 (k := 1) rfl (fun _ h => by cases h)
    have hw8 := hR.w
    have hR := hR.new (t := 214) (n := ((2 : Int32) * x1).toInt.toNat) (k := ((2 : Int32) * x1).toInt.toNat) hTX (by decide) (by have := hv32.2.2; omega) (wN_CI (by decide)) hP hD hS
    have hk8 : adk am27 (adx am27 (qn S30) q33) S30 := adk.rf.new (Nat.le_refl _) hTX
    have hak := hak.new (q := q33) hlg.2.2.1 hTX
    have hE := hE.ad hk8
    have hlg : lgC S (wN S30 214 (((2 : Int32) * x1).toInt.toNat) (((2 : Int32) * x1).toInt.toNat)) (0 + 1 + 1) (0 + (((2 : Int32) * x1).toInt.toNat) + (((2 : Int32) * x1).toInt.toNat)) := hlg.new (t := 214) (n := ((2 : Int32) * x1).toInt.toNat) ⟨hv32.2.1, hv32.2.2⟩
    have hs8 : shx S30 (wN S30 214 (((2 : Int32) * x1).toInt.toNat) (((2 : Int32) * x1).toInt.toNat)) := shx.newC (t := 214) (n := ((2 : Int32) * x1).toInt.toNat) (k := ((2 : Int32) * x1).toInt.toNat) shx.rf hw8 hTX
    obtain ⟨am34, eam34⟩ : ∃ z, z = adx am27 (qn S30) q33 := ⟨_, rfl⟩
    have eq_q33 : am34 (qn S30) = q33 := by rw [eam34]; exact if_pos rfl
    rw [← eam34] at hR hk8 hak hE
    obtain ⟨S35, eS35⟩ : ∃ z, z = wN S30 214 (((2 : Int32) * x1).toInt.toNat) (((2 : Int32) * x1).toInt.toNat) := ⟨_, rfl⟩
    rw [← eS35] at hR hlg hs8
    replace h := h S35 eS35 hR.w
    have hsh := hsh.tr hs8
    have hT_b36 : qT S35 (qn S30) = 214 := by rw [eS35]; exact if_pos rfl
    have ea_0 : am34 p0 = am27 p0 := hk8 _ (hw8.hd hT_p0 (by decide) (by decide))
    have hT_p0 := hs8.T hT_p0 (by decide)
    have hl : lv_has ls 3 [(0, .ref (am34 p0)), (1, .int x1)] := by simp only [ea_0]; exact hl
    refine W.eq (g2 := F0 m 24 ls [.ref (am34 (qn S30)), .ref (am34 p0)]) (by simp only [ea_0, eq_q33]) ?_
    clear hw8 hk8 hs8 hP hD hS e9 e8 e7 hTX
    refine va_put (D := rD g) (ci := 4) (v := .ref (am34 (qn S30))) (ty := (.array .int)) (C := RX4) (T := TX4) (N := 8) hx hb hts inX4 tyX4 tyX4_ok nmX4 hown hR.K hR.P hR.D hR.sS p0 (hR.at44 hT_p0) rfl 1 (by decide) (hts _ kw_957) (fun _ h9 => h9) rfl (by decide +kernel) rfl rfl (Nat.le_of_ble_eq_true rfl) dX4_makeRoom_24 (fun H locs hP hD hS => ?_)
    have hw9 : wfC (wR S35 p0 1 (some (qn S30))) := hR.w.put (fun b q9 => by cases q9; exact (hT_b36).trans (by rw [hT_p0]; rfl)) (hR.w.noown hT_p0 (by decide) (by decide)) (by rw [hT_p0]; decide) (fun b _ q9 => absurd (show otgC (qT S35 p0) 1 = 0 by rw [hT_p0]; decide) q9) (fun _ => Option.some_ne_none _)
    have hTk9 : qT S35 p0 = 44 := hT_p0
    have hR : RepC g am34 A s (wR S35 p0 1 (some (qn S30))) H locs := hR.pR44 hT_p0 FX4_s1 hw9 hP hD hS
    obtain ⟨S37, eS37⟩ : ∃ z, z = wR S35 p0 1 (some (qn S30)) := ⟨_, rfl⟩
    rw [← eS37] at hR
    replace h := h S37 eS37 hTk9 hR.w
    have hT_p0 : qT S37 p0 = 44 := (congrArg (fun z => qT z p0) eS37).trans hT_p0
    have hsh : shx S S37 := by rw [eS37]; exact hsh
    have hlg : lgC S S37 (0 + 1 + 1) (0 + (((2 : Int32) * x1).toInt.toNat) + (((2 : Int32) * x1).toInt.toNat)) := by rw [eS37]; exact hlg
    refine lv_aload_n hx hb dX4_makeRoom_27 rfl (lv_at hl 0 rfl) ?_
    refine lv_iconst (v := 2) hx hb dX4_makeRoom_28 (by decide) ?_
    refine lv_iload_n hx hb dX4_makeRoom_29 rfl (lv_at hl 1 rfl) ?_
    refine lv_imul hx hb dX4_makeRoom_30 ?_
    refine lv_topi (fun z38 ez38 => ?_)
    obtain rfl : z38 = ((2 : Int32) * x1) := ez38
    obtain ⟨hv39, h⟩ := h
    have e9 : KCC = 300000 := rfl
    have e8 : KSC = 3553400 := rfl
    have e7 : TXB = 10000000 := rfl
    have hTX : qn S37 < TXB := by have := hv39.2.1; omega
    refine va_newa (atype := .boolean) (ty := .boolean) (a0 := (((2 : Int32) * x1).toInt.toNat, .inl (fun _ => 0))) (N' := ((2 : Int32) * x1).toInt.toNat) hx hb (hts (.arrayClass .boolean) kw_553) rfl hR.K hR.P hR.D hR.sS hA (fun _ => rfl) (fun q9 => absurd (k_lt (b := 0) rfl (by decide) q9) (Int.not_lt.mpr hv39.1)) rfl (by show (((2 : Int32) * x1).toInt.toNat) * 1 ≤ 536870912; have := hv39.2.2; omega) (show 0 + 1 + 1 + 1 ≤ KCC - qn S from hlg.c1 hv39.2.1) (show 0 + (((2 : Int32) * x1).toInt.toNat) + (((2 : Int32) * x1).toInt.toNat) + (((2 : Int32) * x1).toInt.toNat) ≤ KSC - qu S from hlg.s1 hv39.2.2) dX4_makeRoom_31 (fun q40 cA9 H hK9 hP hD hS => ?_)
    obtain rfl := cls_new3 hR.K hK9 (k := 2) rfl (fun _ h => by cases h)
    have hw8 := hR.w
    have hR := hR.new (t := 304) (n := ((2 : Int32) * x1).toInt.toNat) (k := ((2 : Int32) * x1).toInt.toNat) hTX (by decide) (by have := hv39.2.2; omega) (wN_CZ (by decide)) hP hD hS
    have hk8 : adk am34 (adx am34 (qn S37) q40) S37 := adk.rf.new (Nat.le_refl _) hTX
    have hak := hak.new (q := q40) hlg.2.2.1 hTX
    have hE := hE.ad hk8
    have hlg : lgC S (wN S37 304 (((2 : Int32) * x1).toInt.toNat) (((2 : Int32) * x1).toInt.toNat)) (0 + 1 + 1 + 1) (0 + (((2 : Int32) * x1).toInt.toNat) + (((2 : Int32) * x1).toInt.toNat) + (((2 : Int32) * x1).toInt.toNat)) := hlg.new (t := 304) (n := ((2 : Int32) * x1).toInt.toNat) ⟨hv39.2.1, hv39.2.2⟩
    have hs8 : shx S37 (wN S37 304 (((2 : Int32) * x1).toInt.toNat) (((2 : Int32) * x1).toInt.toNat)) := shx.newC (t := 304) (n := ((2 : Int32) * x1).toInt.toNat) (k := ((2 : Int32) * x1).toInt.toNat) shx.rf hw8 hTX
    obtain ⟨am41, eam41⟩ : ∃ z, z = adx am34 (qn S37) q40 := ⟨_, rfl⟩
    have eq_q40 : am41 (qn S37) = q40 := by rw [eam41]; exact if_pos rfl
    rw [← eam41] at hR hk8 hak hE
    obtain ⟨S42, eS42⟩ : ∃ z, z = wN S37 304 (((2 : Int32) * x1).toInt.toNat) (((2 : Int32) * x1).toInt.toNat) := ⟨_, rfl⟩
    rw [← eS42] at hR hlg hs8
    replace h := h S42 eS42 hR.w
    have hsh := hsh.tr hs8
    have hT_b43 : qT S42 (qn S37) = 304 := by rw [eS42]; exact if_pos rfl
    have ea_0 : am41 p0 = am34 p0 := hk8 _ (hw8.hd hT_p0 (by decide) (by decide))
    have hT_p0 := hs8.T hT_p0 (by decide)
    have hl : lv_has ls 3 [(0, .ref (am41 p0)), (1, .int x1)] := by simp only [ea_0]; exact hl
    refine W.eq (g2 := F0 m 33 ls [.ref (am41 (qn S37)), .ref (am41 p0)]) (by simp only [ea_0, eq_q40]) ?_
    clear hw8 hk8 hs8 hP hD hS e9 e8 e7 hTX
    refine va_put (D := rD g) (ci := 4) (v := .ref (am41 (qn S37))) (ty := (.array .boolean)) (C := RX4) (T := TX4) (N := 8) hx hb hts inX4 tyX4 tyX4_ok nmX4 hown hR.K hR.P hR.D hR.sS p0 (hR.at44 hT_p0) rfl 2 (by decide) (hts _ kw_966) (fun _ h9 => h9) rfl (by decide +kernel) rfl rfl (Nat.le_of_ble_eq_true rfl) dX4_makeRoom_33 (fun H locs hP hD hS => ?_)
    have hw9 : wfC (wR S42 p0 2 (some (qn S37))) := hR.w.put (fun b q9 => by cases q9; exact (hT_b43).trans (by rw [hT_p0]; rfl)) (hR.w.noown hT_p0 (by decide) (by decide)) (by rw [hT_p0]; decide) (fun b _ q9 => absurd (show otgC (qT S42 p0) 2 = 0 by rw [hT_p0]; decide) q9) (fun _ => Option.some_ne_none _)
    have hTk9 : qT S42 p0 = 44 := hT_p0
    have hR : RepC g am41 A s (wR S42 p0 2 (some (qn S37))) H locs := hR.pR44 hT_p0 FX4_s2 hw9 hP hD hS
    obtain ⟨S44, eS44⟩ : ∃ z, z = wR S42 p0 2 (some (qn S37)) := ⟨_, rfl⟩
    rw [← eS44] at hR
    replace h := h S44 eS44 hTk9 hR.w
    have hT_p0 : qT S44 p0 = 44 := (congrArg (fun z => qT z p0) eS44).trans hT_p0
    have hsh : shx S S44 := by rw [eS44]; exact hsh
    have hlg : lgC S S44 (0 + 1 + 1 + 1) (0 + (((2 : Int32) * x1).toInt.toNat) + (((2 : Int32) * x1).toInt.toNat) + (((2 : Int32) * x1).toInt.toNat)) := by rw [eS44]; exact hlg
    exact J_36 am41 (0 + 1 + 1 + 1) (0 + (((2 : Int32) * x1).toInt.toNat) + (((2 : Int32) * x1).toInt.toNat) + (((2 : Int32) * x1).toInt.toNat)) S44 p0 _ _ ls h hT_p0 hsh hlg hak hE hR (lv_sub hl [0] rfl)
def wX4_comeTo (S : MS) (p0 : Nat) (x1 : Int32) (x2 : Int32) (Q : MS → Prop) : Prop := ((x1.toInt < 0 → Q S) ∧ (¬ x1.toInt < 0 → ((qR S p0 4 = some (qO S p0 4)) ∧ (((qI S (qO S p0 4) 2).toInt ≤ x1.toInt → Q S) ∧ (¬ (qI S (qO S p0 4) 2).toInt ≤ x1.toInt → ((qR S p0 0 = some (qO S p0 0)) ∧ (((qN S (qO S p0 0) : Int) ≤ x1.toInt → Q S) ∧ (¬ (qN S (qO S p0 0) : Int) ≤ x1.toInt → ((x2.toInt < 0 → Q S) ∧ (¬ x2.toInt < 0 → ((30 < x2.toInt → Q S) ∧ (¬ 30 < x2.toInt → ((qR S p0 0 = some (qO S p0 0)) ∧ (((0 : Int) ≤ x1.toInt ∧ x1.toInt < (qN S (qO S p0 0) : Int)) ∧ (((((qI S (qO S p0 0) x1.toInt.toNat) >>> (x2 &&& 31)) &&& (1 : Int32)).toInt = 0 → ((qR S p0 0 = some (qO S p0 0)) ∧ (((0 : Int) ≤ x1.toInt ∧ x1.toInt < (qN S (qO S p0 0) : Int)) ∧ (((0 : Int) ≤ x1.toInt ∧ x1.toInt < (qN S (qO S p0 0) : Int)) ∧ (∀ S25, S25 = wI S (qO S p0 0) x1.toInt.toNat ((qI S (qO S p0 0) x1.toInt.toNat) ||| ((1 : Int32) <<< (x2 &&& 31))) → qT S (qO S p0 0) = 213 → wfC S25 → ((qR S25 p0 1 = some (qO S25 p0 1)) ∧ (((0 : Int) ≤ x1.toInt ∧ x1.toInt < (qN S25 (qO S25 p0 1) : Int)) ∧ (((0 : Int) ≤ x1.toInt ∧ x1.toInt < (qN S25 (qO S25 p0 1) : Int)) ∧ (∀ S33, S33 = wI S25 (qO S25 p0 1) x1.toInt.toNat ((qI S25 (qO S25 p0 1) x1.toInt.toNat) ||| ((1 : Int32) <<< (x2 &&& 31))) → qT S25 (qO S25 p0 1) = 214 → wfC S33 → (∀ S34, S34 = wI S33 p0 6 (1 : Int32) → qT S33 p0 = 44 → wfC S34 → Q S34)))))))))) ∧ (¬ (((qI S (qO S p0 0) x1.toInt.toNat) >>> (x2 &&& 31)) &&& (1 : Int32)).toInt = 0 → Q S))))))))))))))))
set_option maxHeartbeats 2000000 in
set_option maxRecDepth 100000 in
theorem rX4_comeTo (l : Launch) (g : Gr) (ad : Nat → Nat) (sz : Nat) (S : MS) (p0 : Nat) (x1 : Int32) (x2 : Int32) (hw : wfC S) (hT_p0 : qT S p0 = 44) (Q : MS → Prop) (h : wX4_comeTo S p0 x1 x2 Q) : Met l yX4_comeTo (wt yX4_comeTo cX4_comeTo 3 none) ({ frames := 0, cells := 0, slots := 0, locals := 0 }) (va_Pc [.ref (ad p0), .int x1, .int x2] (st_C g ad sz S)) (va_Qv (fun (u : MS) => Q u ∧ wfC u ∧ shy S u) (fun (u : MS) (t : State) => qEC g ad (va_A (WdC g ad S) sz) u t) (va_A (WdC g ad S) sz)) 0 0 (va_A (WdC g ad S) sz) := by
  refine Met.ofW (cc := cX4_comeTo) (maxL := 3) (ret := none) (by decide) rfl ?_
  intro p e s m args below meth c s₁ B hml hv
  obtain ⟨rfl, hsz, hP, hK, hD0, hex, hE⟩ := hv
  have hx := B.exec
  have hb := B.bytes
  have hr := B.returns
  have hts0 := atoms_spec (ws := wt yX4_comeTo cX4_comeTo 3 none) B.pre
  have hts : ∀ w ∈ tb, w.before _ s = true := fun w h => hts0 w (List.mem_cons_of_mem _ h)
  have hown : s.vm.findClass RX4 = some m.cls := findClass_of_methodNamed B.named
  subst hsz
  have hD := hD0.self (sz := s.heap.size)
  generalize hAe : va_A (WdC g ad S) s.heap.size = A at hD hE ⊢
  have hA : ∀ q : Nat, s.heap.size ≤ q → A q := fun q h => by rw [← hAe]; exact Or.inr h
  have hR : RepC g ad A s S s.heap [] := ⟨hK, hP, hD, va_S.rf, hw⟩
  clear hK hP hD hD0
  have hl := lv_entry ([.ref (ad p0), .int x1, .int x2]) (n := 3) (Nat.le_of_ble_eq_true rfl)
  rw [lg_entry_eq]
  generalize (lg_sl ([.ref (ad p0), .int x1, .int x2]) ++ List.replicate (3 - (lg_sl ([.ref (ad p0), .int x1, .int x2])).length) Slot.unset).toArray = ls at hl ⊢
  have hl : lv_has ls 3 [(0, .ref (ad p0)), (1, .int x1), (2, .int x2)] := hl
  have hsh : shy S S := shy.rf
  unfold wX4_comeTo at h
  refine lv_iload_n hx hb dX4_comeTo_0 rfl (lv_at hl 1 rfl) ?_
  refine lv_if_lt (tgt := 47) hx hb dX4_comeTo_1 (by decide) (fun c1 => ?_) (fun c1 => ?_)
  · replace h := h.1 (k_lt rfl (by decide) c1)
    exact W.vret hx hb hr (fun t9 ht9 hW9 => ⟨⟨S, rfl, ⟨h, hR.w, hsh⟩, ⟨by rw [ht9]; exact hR.P, hR.D⟩⟩, hR.sS.F ht9⟩) hR.sS.2.2 dX4_comeTo_47
  · replace h := h.2 (k_nlt rfl (by decide) c1)
    refine lv_iload_n hx hb dX4_comeTo_4 rfl (lv_at hl 1 rfl) ?_
    refine lv_aload_n hx hb dX4_comeTo_5 rfl (lv_at hl 0 rfl) ?_
    obtain ⟨hv3, h⟩ := h
    have hT_b2 : qT S (qO S p0 4) = 47 := hR.w.ref hv3 hT_p0
    refine va_get (D := rD g) (ci := 4) (v := .ref (ad (qO S p0 4))) (C := RX4) (T := TX4) (N := 8) hx hb hts inX4 hown hR.K hR.P p0 (hR.at44 hT_p0) rfl 4 (by decide) (hts _ kw_954) (fun _ h9 => h9) (congrArg (fun z => some (vf ad z)) hv3) dX4_comeTo_6 ?_
    refine va_get (D := rD g) (ci := 7) (v := .int (qI S (qO S p0 4) 2)) (C := RX8) (T := TX8) (N := 15) hx hb hts inX8 hown hR.K hR.P (qO S p0 4) (hR.at47 hT_b2) rfl 2 (by decide) (hts _ kw_955) (fun _ h9 => h9) rfl dX4_comeTo_9 ?_
    refine lv_icmp_ge (tgt := 47) hx hb dX4_comeTo_12 (by decide) (fun c4 => ?_) (fun c4 => ?_)
    · replace h := h.1 (k_le rfl rfl c4)
      exact W.vret hx hb hr (fun t9 ht9 hW9 => ⟨⟨S, rfl, ⟨h, hR.w, hsh⟩, ⟨by rw [ht9]; exact hR.P, hR.D⟩⟩, hR.sS.F ht9⟩) hR.sS.2.2 dX4_comeTo_47
    · replace h := h.2 (k_nle rfl rfl c4)
      refine lv_iload_n hx hb dX4_comeTo_15 rfl (lv_at hl 1 rfl) ?_
      refine lv_aload_n hx hb dX4_comeTo_16 rfl (lv_at hl 0 rfl) ?_
      obtain ⟨hv6, h⟩ := h
      have hT_b5 : qT S (qO S p0 0) = 213 := hR.w.ref hv6 hT_p0
      refine va_get (D := rD g) (ci := 4) (v := .ref (ad (qO S p0 0))) (C := RX4) (T := TX4) (N := 8) hx hb hts inX4 hown hR.K hR.P p0 (hR.at44 hT_p0) rfl 0 (by decide) (hts _ kw_956) (fun _ h9 => h9) (congrArg (fun z => some (vf ad z)) hv6) dX4_comeTo_17 ?_
      refine va_alen (v := (Int32.ofNat (qN S (qO S p0 0)))) hx hb hR.K hR.P (qO S p0 0) 1 (hR.atI hT_b5 (by decide)) rfl rfl dX4_comeTo_20 ?_
      have hln7 : (Int32.ofNat (qN S (qO S p0 0))).toInt = (qN S (qO S p0 0) : Int) := toI_len (hR.w.len9 (hT_b5) (by decide))
      refine lv_icmp_ge (tgt := 47) hx hb dX4_comeTo_21 (by decide) (fun c8 => ?_) (fun c8 => ?_)
      · replace h := h.1 (k_le hln7 rfl c8)
        exact W.vret hx hb hr (fun t9 ht9 hW9 => ⟨⟨S, rfl, ⟨h, hR.w, hsh⟩, ⟨by rw [ht9]; exact hR.P, hR.D⟩⟩, hR.sS.F ht9⟩) hR.sS.2.2 dX4_comeTo_47
      · replace h := h.2 (k_nle hln7 rfl c8)
        refine lv_iload_n hx hb dX4_comeTo_24 rfl (lv_at hl 2 rfl) ?_
        refine lv_if_lt (tgt := 47) hx hb dX4_comeTo_25 (by decide) (fun c9 => ?_) (fun c9 => ?_)
        · replace h := h.1 (k_lt rfl (by decide) c9)
          exact W.vret hx hb hr (fun t9 ht9 hW9 => ⟨⟨S, rfl, ⟨h, hR.w, hsh⟩, ⟨by rw [ht9]; exact hR.P, hR.D⟩⟩, hR.sS.F ht9⟩) hR.sS.2.2 dX4_comeTo_47
        · replace h := h.2 (k_nlt rfl (by decide) c9)
          refine lv_iload_n hx hb dX4_comeTo_28 rfl (lv_at hl 2 rfl) ?_
          refine lv_bipush (v := 30) hx hb dX4_comeTo_29 (by decide) ?_
          refine lv_icmp_gt (tgt := 47) hx hb dX4_comeTo_31 (by decide) (fun c10 => ?_) (fun c10 => ?_)
          · replace h := h.1 (k_lt (by decide) rfl c10)
            exact W.vret hx hb hr (fun t9 ht9 hW9 => ⟨⟨S, rfl, ⟨h, hR.w, hsh⟩, ⟨by rw [ht9]; exact hR.P, hR.D⟩⟩, hR.sS.F ht9⟩) hR.sS.2.2 dX4_comeTo_47
          · replace h := h.2 (k_nlt (by decide) rfl c10)
            refine lv_aload_n hx hb dX4_comeTo_34 rfl (lv_at hl 0 rfl) ?_
            obtain ⟨hv12, h⟩ := h
            have hT_b11 : qT S (qO S p0 0) = 213 := hR.w.ref hv12 hT_p0
            refine va_get (D := rD g) (ci := 4) (v := .ref (ad (qO S p0 0))) (C := RX4) (T := TX4) (N := 8) hx hb hts inX4 hown hR.K hR.P p0 (hR.at44 hT_p0) rfl 0 (by decide) (hts _ kw_956) (fun _ h9 => h9) (congrArg (fun z => some (vf ad z)) hv12) dX4_comeTo_35 ?_
            refine lv_iload_n hx hb dX4_comeTo_38 rfl (lv_at hl 1 rfl) ?_
            obtain ⟨hv13, h⟩ := h
            refine va_iald hx hb hR.K hR.P (qO S p0 0) 1 (hR.atI hT_b11 (by decide)) rfl (k_ix (x := x1) (a := x1.toInt) rfl hv13) dX4_comeTo_39 ?_
            refine lv_topi (fun z14 ez14 => ?_)
            obtain rfl : z14 = (qI S (qO S p0 0) x1.toInt.toNat) := ez14
            refine lv_iload_n hx hb dX4_comeTo_40 rfl (lv_at hl 2 rfl) ?_
            refine lv_ishr hx hb dX4_comeTo_41 ?_
            refine lv_topi (fun z15 ez15 => ?_)
            obtain rfl : z15 = ((qI S (qO S p0 0) x1.toInt.toNat) >>> (x2 &&& 31)) := ez15
            refine lv_iconst (v := 1) hx hb dX4_comeTo_42 (by decide) ?_
            refine lv_iand hx hb dX4_comeTo_43 ?_
            refine lv_topi (fun z16 ez16 => ?_)
            obtain rfl : z16 = (((qI S (qO S p0 0) x1.toInt.toNat) >>> (x2 &&& 31)) &&& (1 : Int32)) := ez16
            refine lv_if_eq (tgt := 48) hx hb dX4_comeTo_44 (by decide) (fun c17 => ?_) (fun c17 => ?_)
            · replace h := h.1 (k_eq rfl (by decide) c17)
              refine lv_aload_n hx hb dX4_comeTo_48 rfl (lv_at hl 0 rfl) ?_
              obtain ⟨hv19, h⟩ := h
              have hT_b18 : qT S (qO S p0 0) = 213 := hR.w.ref hv19 hT_p0
              refine va_get (D := rD g) (ci := 4) (v := .ref (ad (qO S p0 0))) (C := RX4) (T := TX4) (N := 8) hx hb hts inX4 hown hR.K hR.P p0 (hR.at44 hT_p0) rfl 0 (by decide) (hts _ kw_956) (fun _ h9 => h9) (congrArg (fun z => some (vf ad z)) hv19) dX4_comeTo_49 ?_
              refine lv_iload_n hx hb dX4_comeTo_52 rfl (lv_at hl 1 rfl) ?_
              refine lv_dup2_11 hx hb dX4_comeTo_53 rfl rfl ?_
              obtain ⟨hv20, h⟩ := h
              refine va_iald hx hb hR.K hR.P (qO S p0 0) 1 (hR.atI hT_b18 (by decide)) rfl (k_ix (x := x1) (a := x1.toInt) rfl hv20) dX4_comeTo_54 ?_
              refine lv_topi (fun z21 ez21 => ?_)
              obtain rfl : z21 = (qI S (qO S p0 0) x1.toInt.toNat) := ez21
              refine lv_iconst (v := 1) hx hb dX4_comeTo_55 (by decide) ?_
              refine lv_iload_n hx hb dX4_comeTo_56 rfl (lv_at hl 2 rfl) ?_
              refine lv_ishl hx hb dX4_comeTo_57 ?_
              refine lv_topi (fun z22 ez22 => ?_)
              obtain rfl : z22 = ((1 : Int32) <<< (x2 &&& 31)) := ez22
              refine lv_ior hx hb dX4_comeTo_58 ?_
              refine lv_topi (fun z23 ez23 => ?_)
              obtain rfl : z23 = ((qI S (qO S p0 0) x1.toInt.toNat) ||| ((1 : Int32) <<< (x2 &&& 31))) := ez23
              obtain ⟨hv24, h⟩ := h
              refine va_iast hx hb hR.K hR.P hR.D hR.sS (qO S p0 0) 1 (hR.atI hT_b18 (by decide)) rfl (k_ix (x := x1) (a := x1.toInt) rfl hv24) dX4_comeTo_59 (fun H locs hP hD hS => ?_)
              have hTk9 : qT S (qO S p0 0) = 213 := hT_b18
              have hR : RepC g ad A s (wI S (qO S p0 0) x1.toInt.toNat ((qI S (qO S p0 0) x1.toInt.toNat) ||| ((1 : Int32) <<< (x2 &&& 31)))) H locs := hR.aI hT_b18 (by decide) hP hD hS
              obtain ⟨S25, eS25⟩ : ∃ z, z = wI S (qO S p0 0) x1.toInt.toNat ((qI S (qO S p0 0) x1.toInt.toNat) ||| ((1 : Int32) <<< (x2 &&& 31))) := ⟨_, rfl⟩
              rw [← eS25] at hR
              replace h := h S25 eS25 hTk9 hR.w
              have hT_p0 : qT S25 p0 = 44 := (congrArg (fun z => qT z p0) eS25).trans hT_p0
              have hsh : shy S S25 := by rw [eS25]; exact hsh
              refine lv_aload_n hx hb dX4_comeTo_60 rfl (lv_at hl 0 rfl) ?_
              obtain ⟨hv27, h⟩ := h
              have hT_b26 : qT S25 (qO S25 p0 1) = 214 := hR.w.ref hv27 hT_p0
              refine va_get (D := rD g) (ci := 4) (v := .ref (ad (qO S25 p0 1))) (C := RX4) (T := TX4) (N := 8) hx hb hts inX4 hown hR.K hR.P p0 (hR.at44 hT_p0) rfl 1 (by decide) (hts _ kw_957) (fun _ h9 => h9) (congrArg (fun z => some (vf ad z)) hv27) dX4_comeTo_61 ?_
              refine lv_iload_n hx hb dX4_comeTo_64 rfl (lv_at hl 1 rfl) ?_
              refine lv_dup2_11 hx hb dX4_comeTo_65 rfl rfl ?_
              obtain ⟨hv28, h⟩ := h
              refine va_iald hx hb hR.K hR.P (qO S25 p0 1) 1 (hR.atI hT_b26 (by decide)) rfl (k_ix (x := x1) (a := x1.toInt) rfl hv28) dX4_comeTo_66 ?_
              refine lv_topi (fun z29 ez29 => ?_)
              obtain rfl : z29 = (qI S25 (qO S25 p0 1) x1.toInt.toNat) := ez29
              refine lv_iconst (v := 1) hx hb dX4_comeTo_67 (by decide) ?_
              refine lv_iload_n hx hb dX4_comeTo_68 rfl (lv_at hl 2 rfl) ?_
              refine lv_ishl hx hb dX4_comeTo_69 ?_
              refine lv_topi (fun z30 ez30 => ?_)
              obtain rfl : z30 = ((1 : Int32) <<< (x2 &&& 31)) := ez30
              refine lv_ior hx hb dX4_comeTo_70 ?_
              refine lv_topi (fun z31 ez31 => ?_)
              obtain rfl : z31 = ((qI S25 (qO S25 p0 1) x1.toInt.toNat) ||| ((1 : Int32) <<< (x2 &&& 31))) := ez31
              obtain ⟨hv32, h⟩ := h
              refine va_iast hx hb hR.K hR.P hR.D hR.sS (qO S25 p0 1) 1 (hR.atI hT_b26 (by decide)) rfl (k_ix (x := x1) (a := x1.toInt) rfl hv32) dX4_comeTo_71 (fun H locs hP hD hS => ?_)
              have hTk9 : qT S25 (qO S25 p0 1) = 214 := hT_b26
              have hR : RepC g ad A s (wI S25 (qO S25 p0 1) x1.toInt.toNat ((qI S25 (qO S25 p0 1) x1.toInt.toNat) ||| ((1 : Int32) <<< (x2 &&& 31)))) H locs := hR.aI hT_b26 (by decide) hP hD hS
              obtain ⟨S33, eS33⟩ : ∃ z, z = wI S25 (qO S25 p0 1) x1.toInt.toNat ((qI S25 (qO S25 p0 1) x1.toInt.toNat) ||| ((1 : Int32) <<< (x2 &&& 31))) := ⟨_, rfl⟩
              rw [← eS33] at hR
              replace h := h S33 eS33 hTk9 hR.w
              have hT_p0 : qT S33 p0 = 44 := (congrArg (fun z => qT z p0) eS33).trans hT_p0
              have hsh : shy S S33 := by rw [eS33]; exact hsh
              refine lv_aload_n hx hb dX4_comeTo_72 rfl (lv_at hl 0 rfl) ?_
              refine lv_iconst (v := 1) hx hb dX4_comeTo_73 (by decide) ?_
              refine va_put (D := rD g) (ci := 4) (v := .int 1) (ty := .boolean) (C := RX4) (T := TX4) (N := 8) hx hb hts inX4 tyX4 tyX4_ok nmX4 hown hR.K hR.P hR.D hR.sS p0 (hR.at44 hT_p0) rfl 6 (by decide) (hts _ kw_958) (fun _ h9 => h9) rfl (by decide +kernel) rfl rfl (Nat.le_of_ble_eq_true rfl) dX4_comeTo_74 (fun H locs hP hD hS => ?_)
              have hTk9 : qT S33 p0 = 44 := hT_p0
              have hR : RepC g ad A s (wI S33 p0 6 (1 : Int32)) H locs := hR.pI44 hT_p0 FX4_s6 (fun _ => (Or.inr rfl)) hP hD hS
              obtain ⟨S34, eS34⟩ : ∃ z, z = wI S33 p0 6 (1 : Int32) := ⟨_, rfl⟩
              rw [← eS34] at hR
              replace h := h S34 eS34 hTk9 hR.w
              have hT_p0 : qT S34 p0 = 44 := (congrArg (fun z => qT z p0) eS34).trans hT_p0
              have hsh : shy S S34 := by rw [eS34]; exact hsh
              exact W.vret hx hb hr (fun t9 ht9 hW9 => ⟨⟨S34, rfl, ⟨h, hR.w, hsh⟩, ⟨by rw [ht9]; exact hR.P, hR.D⟩⟩, hR.sS.F ht9⟩) hR.sS.2.2 dX4_comeTo_77
            · replace h := h.2 (k_ne rfl (by decide) c17)
              exact W.vret hx hb hr (fun t9 ht9 hW9 => ⟨⟨S, rfl, ⟨h, hR.w, hsh⟩, ⟨by rw [ht9]; exact hR.P, hR.D⟩⟩, hR.sS.F ht9⟩) hR.sS.2.2 dX4_comeTo_47
def f_X4_isWrong_J39 (S : MS) : Int32 := (0 : Int32)
def d_X4_isWrong_J39 (S : MS) : Prop := True
def f_X4_isWrong_J35 (S : MS) : Int32 := (1 : Int32)
def d_X4_isWrong_J35 (S : MS) : Prop := True
def fX4_isWrong (S : MS) (p0 : Nat) (x1 : Int32) : Int32 := (if x1.toInt < 0 then f_X4_isWrong_J39 S else (if (qN S (qO S p0 2) : Int) ≤ x1.toInt then f_X4_isWrong_J39 S else (if (qI S (qO S p0 2) x1.toInt.toNat).toInt = 0 then (if (fJ6_bitCount_0f7a4 S (qI S (qO S p0 0) x1.toInt.toNat)).toInt ≤ 1 then f_X4_isWrong_J39 S else f_X4_isWrong_J35 S) else f_X4_isWrong_J35 S)))
def d_X4_isWrong (S : MS) (p0 : Nat) (x1 : Int32) : Prop := (if x1.toInt < 0 then d_X4_isWrong_J39 S else ((qR S p0 2 = some (qO S p0 2)) ∧ (if (qN S (qO S p0 2) : Int) ≤ x1.toInt then d_X4_isWrong_J39 S else ((qR S p0 2 = some (qO S p0 2)) ∧ (((0 : Int) ≤ x1.toInt ∧ x1.toInt < (qN S (qO S p0 2) : Int)) ∧ (if (qI S (qO S p0 2) x1.toInt.toNat).toInt = 0 then ((qR S p0 0 = some (qO S p0 0)) ∧ (((0 : Int) ≤ x1.toInt ∧ x1.toInt < (qN S (qO S p0 0) : Int)) ∧ (d_J6_bitCount_0f7a4 S (qI S (qO S p0 0) x1.toInt.toNat) ∧ (if (fJ6_bitCount_0f7a4 S (qI S (qO S p0 0) x1.toInt.toNat)).toInt ≤ 1 then d_X4_isWrong_J39 S else d_X4_isWrong_J35 S)))) else d_X4_isWrong_J35 S))))))
set_option maxHeartbeats 2000000 in
set_option maxRecDepth 100000 in
theorem rX4_isWrong (l : Launch) (g : Gr) (ad : Nat → Nat) (sz : Nat) (S : MS) (p0 : Nat) (x1 : Int32) (hw : wfC S) (hT_p0 : qT S p0 = 44) (hd : d_X4_isWrong S p0 x1) : Met l yX4_isWrong (wt yX4_isWrong cX4_isWrong 2 (some .boolean)) ({ frames := 1, cells := 0, slots := 0, locals := 20 }) (va_Pc [.ref (ad p0), .int x1] (st_C g ad sz S)) (va_Qi (fun (r : Int32) (_ : Unit) => r = fX4_isWrong S p0 x1 ∧ (r = 0 ∨ r = 1)) (fun (_ : Unit) (t : State) => qEC g ad (va_A (WdC g ad S) sz) S t) (va_A (WdC g ad S) sz)) 0 0 (va_A (WdC g ad S) sz) := by
  refine Met.ofW (cc := cX4_isWrong) (maxL := 2) (ret := (some .boolean)) (by decide) rfl ?_
  intro p e s m args below meth c s₁ B hml hv
  obtain ⟨rfl, hsz, hP, hK, hD0, hex, hE⟩ := hv
  have hx := B.exec
  have hb := B.bytes
  have hr := B.returns
  have hts0 := atoms_spec (ws := wt yX4_isWrong cX4_isWrong 2 (some .boolean)) B.pre
  have hts : ∀ w ∈ tb, w.before _ s = true := fun w h => hts0 w (List.mem_cons_of_mem _ h)
  have hown : s.vm.findClass RX4 = some m.cls := findClass_of_methodNamed B.named
  subst hsz
  have hD := hD0.self (sz := s.heap.size)
  generalize hAe : va_A (WdC g ad S) s.heap.size = A at hD hE ⊢
  have hA : ∀ q : Nat, s.heap.size ≤ q → A q := fun q h => by rw [← hAe]; exact Or.inr h
  have hR : RepC g ad A s S s.heap [] := ⟨hK, hP, hD, va_S.rf, hw⟩
  clear hK hP hD hD0
  have hl := lv_entry ([.ref (ad p0), .int x1]) (n := 2) (Nat.le_of_ble_eq_true rfl)
  rw [lg_entry_eq]
  generalize (lg_sl ([.ref (ad p0), .int x1]) ++ List.replicate (2 - (lg_sl ([.ref (ad p0), .int x1])).length) Slot.unset).toArray = ls at hl ⊢
  have hl : lv_has ls 2 [(0, .ref (ad p0)), (1, .int x1)] := hl
  obtain ⟨r0, hf⟩ : ∃ r0, fX4_isWrong S p0 x1 = r0 := ⟨_, rfl⟩
  have hf0 := hf
  unfold fX4_isWrong at hf
  unfold d_X4_isWrong at hd
  refine lv_iload_n hx hb dX4_isWrong_0 rfl (lv_at hl 1 rfl) ?_
  have J_39 : ∀ (H : Heap) (locs : List Loc) (ls : Array Slot), d_X4_isWrong_J39 S → f_X4_isWrong_J39 S = r0 → RepC g ad A s S H locs → lv_has ls 2 [] → W p l e (headSpec (wt yX4_isWrong cX4_isWrong 2 (some .boolean)) ({ frames := 1, cells := 0, slots := 0, locals := 20 })).room s m ([.ref (ad p0), .int x1] : List Value).toArray below meth c H locs 0 0 (MQ below (va_Qi (fun (r : Int32) (_ : Unit) => r = fX4_isWrong S p0 x1 ∧ (r = 0 ∨ r = 1)) (fun (_ : Unit) (t : State) => qEC g ad A S t) A) ([.ref (ad p0), .int x1] : List Value).toArray s 0 0 A) (F0 m 39 ls []) := by
    intro H locs ls hd hf hR hl
    unfold d_X4_isWrong_J39 at hd
    unfold f_X4_isWrong_J39 at hf
    refine lv_iconst (v := 0) hx hb dX4_isWrong_39 (by decide) ?_
    exact W.zret (v := 0) hx hb hr (nz (Or.inl rfl)) (fun t9 ht9 hW9 => ⟨⟨_, (), rfl, ⟨hf.trans hf0.symm, (Or.inl rfl)⟩, ⟨by rw [ht9]; exact hR.P, hR.D⟩⟩, hR.sS.F ht9⟩) hR.sS.2.2 dX4_isWrong_40
  refine lv_if_lt (tgt := 39) hx hb dX4_isWrong_1 (by decide) (fun c1 => ?_) (fun c1 => ?_)
  · rw [if_pos (k_lt rfl (by decide) c1)] at hf
    (try rw [if_pos (k_lt rfl (by decide) c1)] at hd)
    exact J_39 _ _ ls hd hf  hR (lv_sub hl [] rfl)
  · rw [if_neg (k_nlt rfl (by decide) c1)] at hf
    (try rw [if_neg (k_nlt rfl (by decide) c1)] at hd)
    refine lv_iload_n hx hb dX4_isWrong_4 rfl (lv_at hl 1 rfl) ?_
    refine lv_aload_n hx hb dX4_isWrong_5 rfl (lv_at hl 0 rfl) ?_
    obtain ⟨hv3, hd⟩ := hd
    have hT_b2 : qT S (qO S p0 2) = 304 := hR.w.ref hv3 hT_p0
    refine va_get (D := rD g) (ci := 4) (v := .ref (ad (qO S p0 2))) (C := RX4) (T := TX4) (N := 8) hx hb hts inX4 hown hR.K hR.P p0 (hR.at44 hT_p0) rfl 2 (by decide) (hts _ kw_966) (fun _ h9 => h9) (congrArg (fun z => some (vf ad z)) hv3) dX4_isWrong_6 ?_
    refine va_alen (v := (Int32.ofNat (qN S (qO S p0 2)))) hx hb hR.K hR.P (qO S p0 2) 2 (hR.atZ hT_b2 (by decide)) rfl rfl dX4_isWrong_9 ?_
    have hln4 : (Int32.ofNat (qN S (qO S p0 2))).toInt = (qN S (qO S p0 2) : Int) := toI_len (hR.w.len9 (hT_b2) (by decide))
    refine lv_icmp_ge (tgt := 39) hx hb dX4_isWrong_10 (by decide) (fun c5 => ?_) (fun c5 => ?_)
    · rw [if_pos (k_le hln4 rfl c5)] at hf
      (try rw [if_pos (k_le hln4 rfl c5)] at hd)
      exact J_39 _ _ ls hd hf  hR (lv_sub hl [] rfl)
    · rw [if_neg (k_nle hln4 rfl c5)] at hf
      (try rw [if_neg (k_nle hln4 rfl c5)] at hd)
      refine lv_aload_n hx hb dX4_isWrong_13 rfl (lv_at hl 0 rfl) ?_
      obtain ⟨hv7, hd⟩ := hd
      have hT_b6 : qT S (qO S p0 2) = 304 := hR.w.ref hv7 hT_p0
      refine va_get (D := rD g) (ci := 4) (v := .ref (ad (qO S p0 2))) (C := RX4) (T := TX4) (N := 8) hx hb hts inX4 hown hR.K hR.P p0 (hR.at44 hT_p0) rfl 2 (by decide) (hts _ kw_966) (fun _ h9 => h9) (congrArg (fun z => some (vf ad z)) hv7) dX4_isWrong_14 ?_
      refine lv_iload_n hx hb dX4_isWrong_17 rfl (lv_at hl 1 rfl) ?_
      obtain ⟨hv8, hd⟩ := hd
      refine va_zald hx hb hR.K hR.P (qO S p0 2) 2 (hR.atZ hT_b6 (by decide)) rfl (k_ix (x := x1) (a := x1.toInt) rfl hv8) dX4_isWrong_18 ?_
      refine lv_topi (fun z9 ez9 => ?_)
      obtain rfl : z9 = (qI S (qO S p0 2) x1.toInt.toNat) := ez9
      have hz10 := hR.w.bit3 (b := (qO S p0 2)) (j := x1.toInt.toNat) (hT_b6) (by decide)
      have J_35 : ∀ (H : Heap) (locs : List Loc) (ls : Array Slot), d_X4_isWrong_J35 S → f_X4_isWrong_J35 S = r0 → RepC g ad A s S H locs → lv_has ls 2 [] → W p l e (headSpec (wt yX4_isWrong cX4_isWrong 2 (some .boolean)) ({ frames := 1, cells := 0, slots := 0, locals := 20 })).room s m ([.ref (ad p0), .int x1] : List Value).toArray below meth c H locs 0 0 (MQ below (va_Qi (fun (r : Int32) (_ : Unit) => r = fX4_isWrong S p0 x1 ∧ (r = 0 ∨ r = 1)) (fun (_ : Unit) (t : State) => qEC g ad A S t) A) ([.ref (ad p0), .int x1] : List Value).toArray s 0 0 A) (F0 m 35 ls []) := by
        intro H locs ls hd hf hR hl
        unfold d_X4_isWrong_J35 at hd
        unfold f_X4_isWrong_J35 at hf
        refine lv_iconst (v := 1) hx hb dX4_isWrong_35 (by decide) ?_
        refine lv_goto (tgt := 40) hx hb dX4_isWrong_36 (by decide) ?_
        exact W.zret (v := 1) hx hb hr (nz (Or.inr rfl)) (fun t9 ht9 hW9 => ⟨⟨_, (), rfl, ⟨hf.trans hf0.symm, (Or.inr rfl)⟩, ⟨by rw [ht9]; exact hR.P, hR.D⟩⟩, hR.sS.F ht9⟩) hR.sS.2.2 dX4_isWrong_40
      refine lv_if_ne (tgt := 35) hx hb dX4_isWrong_19 (by decide) (fun c11 => ?_) (fun c11 => ?_)
      · rw [if_neg (k_ne rfl (by decide) c11)] at hf
        (try rw [if_neg (k_ne rfl (by decide) c11)] at hd)
        exact J_35 _ _ ls hd hf  hR (lv_sub hl [] rfl)
      · rw [if_pos (k_eq rfl (by decide) c11)] at hf
        (try rw [if_pos (k_eq rfl (by decide) c11)] at hd)
        refine lv_aload_n hx hb dX4_isWrong_22 rfl (lv_at hl 0 rfl) ?_
        obtain ⟨hv13, hd⟩ := hd
        have hT_b12 : qT S (qO S p0 0) = 213 := hR.w.ref hv13 hT_p0
        refine va_get (D := rD g) (ci := 4) (v := .ref (ad (qO S p0 0))) (C := RX4) (T := TX4) (N := 8) hx hb hts inX4 hown hR.K hR.P p0 (hR.at44 hT_p0) rfl 0 (by decide) (hts _ kw_956) (fun _ h9 => h9) (congrArg (fun z => some (vf ad z)) hv13) dX4_isWrong_23 ?_
        refine lv_iload_n hx hb dX4_isWrong_26 rfl (lv_at hl 1 rfl) ?_
        obtain ⟨hv14, hd⟩ := hd
        refine va_iald hx hb hR.K hR.P (qO S p0 0) 1 (hR.atI hT_b12 (by decide)) rfl (k_ix (x := x1) (a := x1.toInt) rfl hv14) dX4_isWrong_27 ?_
        refine lv_topi (fun z15 ez15 => ?_)
        obtain rfl : z15 = (qI S (qO S p0 0) x1.toInt.toNat) := ez15
        obtain ⟨hv16, hd⟩ := hd
        have hFc := cfree hR hA
        refine va_calli (va_runS (As := [.int (qI S (qO S p0 0) x1.toInt.toNat)]) (rest := []) ⟨hx, hb, hml, hown, hts⟩ (rJ6_bitCount_0f7a4 l g ad s.heap.size S (qI S (qO S p0 0) x1.toInt.toNat) hR.w  hv16) (va_cwS 1 hts (gd_S kw_970 kw_1727 kw_1728 kw_1726) rfl rfl rfl (by decide +kernel) ⟨Nat.le_of_ble_eq_true rfl, Nat.le_of_ble_eq_true rfl⟩) ⟨cblind, fun U hU hW9 => cmk hU hW9 hR hex hE hFc⟩ rfl rfl hl.1 rfl (lv_room (Nat.le_of_ble_eq_true rfl)) dX4_isWrong_28 ⟨Nat.le_of_ble_eq_true rfl, Nat.le_of_ble_eq_true rfl⟩) hR.sS (fun q _ h => hFc q h) hFc (fun r17 u9 t9 H1 locs ht9 hvm9 hw9 hB9 hz9 hk9 hS => ?_)
        have hR : RepC g ad A s S H1 locs := hR.call ht9 hB9 hR.w hS hFc
        obtain rfl : r17 = (fJ6_bitCount_0f7a4 S (qI S (qO S p0 0) x1.toInt.toNat)) := hw9
        clear hB9 hz9 hk9 hvm9 ht9 hS
        generalize H1 = H at hR ⊢
        refine lv_iconst (v := 1) hx hb dX4_isWrong_31 (by decide) ?_
        refine lv_icmp_le (tgt := 39) hx hb dX4_isWrong_32 (by decide) (fun c19 => ?_) (fun c19 => ?_)
        · rw [if_pos (k_le rfl (by decide) c19)] at hf
          (try rw [if_pos (k_le rfl (by decide) c19)] at hd)
          exact J_39 _ _ ls hd hf  hR (lv_sub hl [] rfl)
        · rw [if_neg (k_nle rfl (by decide) c19)] at hf
          (try rw [if_neg (k_nle rfl (by decide) c19)] at hd)
          exact J_35 _ _ ls hd hf  hR (lv_sub hl [] rfl)
def f_X4_heightAt_J22 (S : MS) : Int32 := (-1 : Int32)
def d_X4_heightAt_J22 (S : MS) : Prop := True
def fX4_heightAt (S : MS) (p0 : Nat) (x1 : Int32) : Int32 := (if x1.toInt < 0 then f_X4_heightAt_J22 S else (if (qN S (qO S p0 0) : Int) ≤ x1.toInt then f_X4_heightAt_J22 S else (if (qI S (qO S p0 0) x1.toInt.toNat).toInt = 0 then f_X4_heightAt_J22 S else (fJ6_numberOfTrailingZeros_0f7a4 S (qI S (qO S p0 0) x1.toInt.toNat)))))
def d_X4_heightAt (S : MS) (p0 : Nat) (x1 : Int32) : Prop := (if x1.toInt < 0 then d_X4_heightAt_J22 S else ((qR S p0 0 = some (qO S p0 0)) ∧ (if (qN S (qO S p0 0) : Int) ≤ x1.toInt then d_X4_heightAt_J22 S else ((qR S p0 0 = some (qO S p0 0)) ∧ (((0 : Int) ≤ x1.toInt ∧ x1.toInt < (qN S (qO S p0 0) : Int)) ∧ (if (qI S (qO S p0 0) x1.toInt.toNat).toInt = 0 then d_X4_heightAt_J22 S else ((qR S p0 0 = some (qO S p0 0)) ∧ (((0 : Int) ≤ x1.toInt ∧ x1.toInt < (qN S (qO S p0 0) : Int)) ∧ (d_J6_numberOfTrailingZeros_0f7a4 S (qI S (qO S p0 0) x1.toInt.toNat) ∧ True)))))))))
set_option maxHeartbeats 2000000 in
set_option maxRecDepth 100000 in
theorem rX4_heightAt (l : Launch) (g : Gr) (ad : Nat → Nat) (sz : Nat) (S : MS) (p0 : Nat) (x1 : Int32) (hw : wfC S) (hT_p0 : qT S p0 = 44) (hd : d_X4_heightAt S p0 x1) : Met l yX4_heightAt (wt yX4_heightAt cX4_heightAt 2 (some .int)) ({ frames := 1, cells := 0, slots := 0, locals := 21 }) (va_Pc [.ref (ad p0), .int x1] (st_C g ad sz S)) (va_Qi (fun (r : Int32) (_ : Unit) => r = fX4_heightAt S p0 x1) (fun (_ : Unit) (t : State) => qEC g ad (va_A (WdC g ad S) sz) S t) (va_A (WdC g ad S) sz)) 0 0 (va_A (WdC g ad S) sz) := by
  refine Met.ofW (cc := cX4_heightAt) (maxL := 2) (ret := (some .int)) (by decide) rfl ?_
  intro p e s m args below meth c s₁ B hml hv
  obtain ⟨rfl, hsz, hP, hK, hD0, hex, hE⟩ := hv
  have hx := B.exec
  have hb := B.bytes
  have hr := B.returns
  have hts0 := atoms_spec (ws := wt yX4_heightAt cX4_heightAt 2 (some .int)) B.pre
  have hts : ∀ w ∈ tb, w.before _ s = true := fun w h => hts0 w (List.mem_cons_of_mem _ h)
  have hown : s.vm.findClass RX4 = some m.cls := findClass_of_methodNamed B.named
  subst hsz
  have hD := hD0.self (sz := s.heap.size)
  generalize hAe : va_A (WdC g ad S) s.heap.size = A at hD hE ⊢
  have hA : ∀ q : Nat, s.heap.size ≤ q → A q := fun q h => by rw [← hAe]; exact Or.inr h
  have hR : RepC g ad A s S s.heap [] := ⟨hK, hP, hD, va_S.rf, hw⟩
  clear hK hP hD hD0
  have hl := lv_entry ([.ref (ad p0), .int x1]) (n := 2) (Nat.le_of_ble_eq_true rfl)
  rw [lg_entry_eq]
  generalize (lg_sl ([.ref (ad p0), .int x1]) ++ List.replicate (2 - (lg_sl ([.ref (ad p0), .int x1])).length) Slot.unset).toArray = ls at hl ⊢
  have hl : lv_has ls 2 [(0, .ref (ad p0)), (1, .int x1)] := hl
  obtain ⟨r0, hf⟩ : ∃ r0, fX4_heightAt S p0 x1 = r0 := ⟨_, rfl⟩
  have hf0 := hf
  unfold fX4_heightAt at hf
  unfold d_X4_heightAt at hd
  refine lv_iload_n hx hb dX4_heightAt_0 rfl (lv_at hl 1 rfl) ?_
  have J_22 : ∀ (H : Heap) (locs : List Loc) (ls : Array Slot), d_X4_heightAt_J22 S → f_X4_heightAt_J22 S = r0 → RepC g ad A s S H locs → lv_has ls 2 [] → W p l e (headSpec (wt yX4_heightAt cX4_heightAt 2 (some .int)) ({ frames := 1, cells := 0, slots := 0, locals := 21 })).room s m ([.ref (ad p0), .int x1] : List Value).toArray below meth c H locs 0 0 (MQ below (va_Qi (fun (r : Int32) (_ : Unit) => r = fX4_heightAt S p0 x1) (fun (_ : Unit) (t : State) => qEC g ad A S t) A) ([.ref (ad p0), .int x1] : List Value).toArray s 0 0 A) (F0 m 22 ls []) := by
    intro H locs ls hd hf hR hl
    unfold d_X4_heightAt_J22 at hd
    unfold f_X4_heightAt_J22 at hf
    refine lv_iconst (v := (-1)) hx hb dX4_heightAt_22 (by decide) ?_
    refine lv_goto (tgt := 35) hx hb dX4_heightAt_23 (by decide) ?_
    exact W.iret (v := (-1)) hx hb hr (fun t9 ht9 hW9 => ⟨⟨_, (), rfl, hf.trans hf0.symm, ⟨by rw [ht9]; exact hR.P, hR.D⟩⟩, hR.sS.F ht9⟩) hR.sS.2.2 dX4_heightAt_35
  refine lv_if_lt (tgt := 22) hx hb dX4_heightAt_1 (by decide) (fun c1 => ?_) (fun c1 => ?_)
  · rw [if_pos (k_lt rfl (by decide) c1)] at hf
    (try rw [if_pos (k_lt rfl (by decide) c1)] at hd)
    exact J_22 _ _ ls hd hf  hR (lv_sub hl [] rfl)
  · rw [if_neg (k_nlt rfl (by decide) c1)] at hf
    (try rw [if_neg (k_nlt rfl (by decide) c1)] at hd)
    refine lv_iload_n hx hb dX4_heightAt_4 rfl (lv_at hl 1 rfl) ?_
    refine lv_aload_n hx hb dX4_heightAt_5 rfl (lv_at hl 0 rfl) ?_
    obtain ⟨hv3, hd⟩ := hd
    have hT_b2 : qT S (qO S p0 0) = 213 := hR.w.ref hv3 hT_p0
    refine va_get (D := rD g) (ci := 4) (v := .ref (ad (qO S p0 0))) (C := RX4) (T := TX4) (N := 8) hx hb hts inX4 hown hR.K hR.P p0 (hR.at44 hT_p0) rfl 0 (by decide) (hts _ kw_956) (fun _ h9 => h9) (congrArg (fun z => some (vf ad z)) hv3) dX4_heightAt_6 ?_
    refine va_alen (v := (Int32.ofNat (qN S (qO S p0 0)))) hx hb hR.K hR.P (qO S p0 0) 1 (hR.atI hT_b2 (by decide)) rfl rfl dX4_heightAt_9 ?_
    have hln4 : (Int32.ofNat (qN S (qO S p0 0))).toInt = (qN S (qO S p0 0) : Int) := toI_len (hR.w.len9 (hT_b2) (by decide))
    refine lv_icmp_ge (tgt := 22) hx hb dX4_heightAt_10 (by decide) (fun c5 => ?_) (fun c5 => ?_)
    · rw [if_pos (k_le hln4 rfl c5)] at hf
      (try rw [if_pos (k_le hln4 rfl c5)] at hd)
      exact J_22 _ _ ls hd hf  hR (lv_sub hl [] rfl)
    · rw [if_neg (k_nle hln4 rfl c5)] at hf
      (try rw [if_neg (k_nle hln4 rfl c5)] at hd)
      refine lv_aload_n hx hb dX4_heightAt_13 rfl (lv_at hl 0 rfl) ?_
      obtain ⟨hv7, hd⟩ := hd
      have hT_b6 : qT S (qO S p0 0) = 213 := hR.w.ref hv7 hT_p0
      refine va_get (D := rD g) (ci := 4) (v := .ref (ad (qO S p0 0))) (C := RX4) (T := TX4) (N := 8) hx hb hts inX4 hown hR.K hR.P p0 (hR.at44 hT_p0) rfl 0 (by decide) (hts _ kw_956) (fun _ h9 => h9) (congrArg (fun z => some (vf ad z)) hv7) dX4_heightAt_14 ?_
      refine lv_iload_n hx hb dX4_heightAt_17 rfl (lv_at hl 1 rfl) ?_
      obtain ⟨hv8, hd⟩ := hd
      refine va_iald hx hb hR.K hR.P (qO S p0 0) 1 (hR.atI hT_b6 (by decide)) rfl (k_ix (x := x1) (a := x1.toInt) rfl hv8) dX4_heightAt_18 ?_
      refine lv_topi (fun z9 ez9 => ?_)
      obtain rfl : z9 = (qI S (qO S p0 0) x1.toInt.toNat) := ez9
      refine lv_if_ne (tgt := 26) hx hb dX4_heightAt_19 (by decide) (fun c10 => ?_) (fun c10 => ?_)
      · rw [if_neg (k_ne rfl (by decide) c10)] at hf
        (try rw [if_neg (k_ne rfl (by decide) c10)] at hd)
        refine lv_aload_n hx hb dX4_heightAt_26 rfl (lv_at hl 0 rfl) ?_
        obtain ⟨hv12, hd⟩ := hd
        have hT_b11 : qT S (qO S p0 0) = 213 := hR.w.ref hv12 hT_p0
        refine va_get (D := rD g) (ci := 4) (v := .ref (ad (qO S p0 0))) (C := RX4) (T := TX4) (N := 8) hx hb hts inX4 hown hR.K hR.P p0 (hR.at44 hT_p0) rfl 0 (by decide) (hts _ kw_956) (fun _ h9 => h9) (congrArg (fun z => some (vf ad z)) hv12) dX4_heightAt_27 ?_
        refine lv_iload_n hx hb dX4_heightAt_30 rfl (lv_at hl 1 rfl) ?_
        obtain ⟨hv13, hd⟩ := hd
        refine va_iald hx hb hR.K hR.P (qO S p0 0) 1 (hR.atI hT_b11 (by decide)) rfl (k_ix (x := x1) (a := x1.toInt) rfl hv13) dX4_heightAt_31 ?_
        refine lv_topi (fun z14 ez14 => ?_)
        obtain rfl : z14 = (qI S (qO S p0 0) x1.toInt.toNat) := ez14
        obtain ⟨hv15, hd⟩ := hd
        have hFc := cfree hR hA
        refine va_calli (va_runS (As := [.int (qI S (qO S p0 0) x1.toInt.toNat)]) (rest := []) ⟨hx, hb, hml, hown, hts⟩ (rJ6_numberOfTrailingZeros_0f7a4 l g ad s.heap.size S (qI S (qO S p0 0) x1.toInt.toNat) hR.w  hv15) (va_cwS 1 hts (gd_S kw_962 kw_1738 kw_1728 kw_1737) rfl rfl rfl (by decide +kernel) ⟨Nat.le_of_ble_eq_true rfl, Nat.le_of_ble_eq_true rfl⟩) ⟨cblind, fun U hU hW9 => cmk hU hW9 hR hex hE hFc⟩ rfl rfl hl.1 rfl (lv_room (Nat.le_of_ble_eq_true rfl)) dX4_heightAt_32 ⟨Nat.le_of_ble_eq_true rfl, Nat.le_of_ble_eq_true rfl⟩) hR.sS (fun q _ h => hFc q h) hFc (fun r16 u9 t9 H1 locs ht9 hvm9 hw9 hB9 hz9 hk9 hS => ?_)
        have hR : RepC g ad A s S H1 locs := hR.call ht9 hB9 hR.w hS hFc
        obtain rfl : r16 = (fJ6_numberOfTrailingZeros_0f7a4 S (qI S (qO S p0 0) x1.toInt.toNat)) := hw9
        clear hB9 hz9 hk9 hvm9 ht9 hS
        generalize H1 = H at hR ⊢
        exact W.iret (v := (fJ6_numberOfTrailingZeros_0f7a4 S (qI S (qO S p0 0) x1.toInt.toNat))) hx hb hr (fun t9 ht9 hW9 => ⟨⟨_, (), rfl, hf.trans hf0.symm, ⟨by rw [ht9]; exact hR.P, hR.D⟩⟩, hR.sS.F ht9⟩) hR.sS.2.2 dX4_heightAt_35
      · rw [if_pos (k_eq rfl (by decide) c10)] at hf
        (try rw [if_pos (k_eq rfl (by decide) c10)] at hd)
        exact J_22 _ _ ls hd hf  hR (lv_sub hl [] rfl)
def wX5_setStage (S : MS) (p1 : Nat) (Q : MS → Prop) : Prop := (∀ S1, S1 = wR S 44 0 (some p1) → qT S 44 = 45 → wfC S1 → (qT S1 45 = 402 → (∃ Q2, wJ7_fill_d0a16 S1 45 0 Q2 ∧ ∀ S3, Q2 S3 → wfC S3 → shy S1 S3 → (∀ S5, S5 = wI S3 44 3 (0 : Int32) → qT S3 44 = 45 → wfC S5 → (∀ S6, S6 = wI S5 44 5 (0 : Int32) → qT S5 44 = 45 → wfC S6 → Q S6)))))
set_option maxHeartbeats 2000000 in
set_option maxRecDepth 100000 in
theorem rX5_setStage (l : Launch) (g : Gr) (ad : Nat → Nat) (sz : Nat) (S : MS) (p1 : Nat) (hw : wfC S) (hT_p1 : qT S p1 = 49) (Q : MS → Prop) (h : wX5_setStage S p1 Q) : Met l yX5_setStage (wt yX5_setStage cX5_setStage 2 none) ({ frames := 1, cells := 0, slots := 0, locals := 24 }) (va_Pc [.ref (ad 44), .ref (ad p1)] (st_C g ad sz S)) (va_Qv (fun (u : MS) => Q u ∧ wfC u ∧ shy S u) (fun (u : MS) (t : State) => qEC g ad (va_A (WdC g ad S) sz) u t) (va_A (WdC g ad S) sz)) 0 0 (va_A (WdC g ad S) sz) := by
  refine Met.ofW (cc := cX5_setStage) (maxL := 2) (ret := none) (by decide) rfl ?_
  intro p e s m args below meth c s₁ B hml hv
  obtain ⟨rfl, hsz, hP, hK, hD0, hex, hE⟩ := hv
  have hx := B.exec
  have hb := B.bytes
  have hr := B.returns
  have hts0 := atoms_spec (ws := wt yX5_setStage cX5_setStage 2 none) B.pre
  have hts : ∀ w ∈ tb, w.before _ s = true := fun w h => hts0 w (List.mem_cons_of_mem _ h)
  have hown : s.vm.findClass RX5 = some m.cls := findClass_of_methodNamed B.named
  subst hsz
  have hD := hD0.self (sz := s.heap.size)
  generalize hAe : va_A (WdC g ad S) s.heap.size = A at hD hE ⊢
  have hA : ∀ q : Nat, s.heap.size ≤ q → A q := fun q h => by rw [← hAe]; exact Or.inr h
  have hR : RepC g ad A s S s.heap [] := ⟨hK, hP, hD, va_S.rf, hw⟩
  clear hK hP hD hD0
  have hl := lv_entry ([.ref (ad 44), .ref (ad p1)]) (n := 2) (Nat.le_of_ble_eq_true rfl)
  rw [lg_entry_eq]
  generalize (lg_sl ([.ref (ad 44), .ref (ad p1)]) ++ List.replicate (2 - (lg_sl ([.ref (ad 44), .ref (ad p1)])).length) Slot.unset).toArray = ls at hl ⊢
  have hl : lv_has ls 2 [(0, .ref (ad 44)), (1, .ref (ad p1))] := hl
  have hsh : shy S S := shy.rf
  unfold wX5_setStage at h
  refine lv_aload_n hx hb dX5_setStage_0 rfl (lv_at hl 0 rfl) ?_
  refine lv_aload_n hx hb dX5_setStage_1 rfl (lv_at hl 1 rfl) ?_
  refine va_put (D := rD g) (ci := 5) (v := .ref (ad p1)) (ty := (.object "CodeFoundry$Unit")) (C := RX5) (T := TX5) (N := 20) hx hb hts inX5 tyX5 tyX5_ok nmX5 hown hR.K hR.P hR.D hR.sS 44 (hR.at45 (hR.w.2.1 _ finC_29).2.1) rfl 0 (by decide) (hts _ kw_1027) (fun _ h9 => h9) rfl (by decide +kernel) rfl rfl (Nat.le_of_ble_eq_true rfl) dX5_setStage_2 (fun H locs hP hD hS => ?_)
  have hw9 : wfC (wR S 44 0 (some p1)) := hR.w.put (fun b q9 => by cases q9; exact (hT_p1).trans (by rw [(hR.w.2.1 _ finC_29).2.1]; rfl)) (nofC_44_0) (by rw [(hR.w.2.1 _ finC_29).2.1]; decide) (fun b _ q9 => absurd (show otgC (qT S 44) 0 = 0 by rw [(hR.w.2.1 _ finC_29).2.1]; decide) q9) (fun _ => Option.some_ne_none _)
  have hTk9 : qT S 44 = 45 := (hR.w.2.1 _ finC_29).2.1
  have hR : RepC g ad A s (wR S 44 0 (some p1)) H locs := hR.pR45 (hR.w.2.1 _ finC_29).2.1 FX5_s0 hw9 hP hD hS
  obtain ⟨S1, eS1⟩ : ∃ z, z = wR S 44 0 (some p1) := ⟨_, rfl⟩
  rw [← eS1] at hR
  replace h := h S1 eS1 hTk9 hR.w
  have hT_p1 : qT S1 p1 = 49 := (congrArg (fun z => qT z p1) eS1).trans hT_p1
  have hsh : shy S S1 := by rw [eS1]; exact hsh
  refine lv_aload_n hx hb dX5_setStage_5 rfl (lv_at hl 0 rfl) ?_
  refine va_get (D := rD g) (ci := 5) (v := .ref (ad 45)) (C := RX5) (T := TX5) (N := 20) hx hb hts inX5 hown hR.K hR.P 44 (hR.at45 (hR.w.2.1 _ finC_29).2.1) rfl 1 (by decide) (hts _ kw_1054) (fun _ h9 => h9) (congrArg (fun z => some (vf ad z)) (hR.w.2.1 _ finC_4).1) dX5_setStage_6 ?_
  refine lv_lconst (v := 0) hx hb dX5_setStage_9 (by decide) ?_
  replace h := h ((hR.w.2.1 _ finC_4).2.1)
  obtain ⟨Q2, h0, h⟩ := h
  have hFc := cfree hR hA
  refine va_callv (va_runS (As := [.ref (ad 45), .long 0]) (rest := []) ⟨hx, hb, hml, hown, hts⟩ (rJ7_fill_d0a16 l g ad H.size S1 45 0 hR.w (by decide) (hR.w.2.1 _ finC_4).2.1 Q2 h0) (va_cwS 2 hts (gd_S kw_1156 kw_1725 kw_1723 kw_1724) rfl rfl rfl (by decide +kernel) ⟨Nat.le_of_ble_eq_true rfl, Nat.le_of_ble_eq_true rfl⟩) ⟨cblind, fun U hU hW9 => cmk hU hW9 hR hex hE hFc⟩ rfl rfl hl.1 rfl (lv_room (Nat.le_of_ble_eq_true rfl)) dX5_setStage_10 ⟨Nat.le_of_ble_eq_true rfl, Nat.le_of_ble_eq_true rfl⟩) hR.sS (fun q _ h => hFc q h) hFc (fun  S3 t9 H1 locs ht9 hvm9 hw9 hB9 hz9 hk9 hS => ?_)
  obtain ⟨hq4, hw9, hs9⟩ := hw9
  have hR : RepC g ad A s S3 H1 locs := hR.call ht9 hB9 hw9 hS hFc
  have hsh := hsh.tr hs9
  replace h := h  S3 hq4 hw9 hs9
  have hT_p1 := hs9.T hT_p1 (by decide)
  clear hB9 hz9 hk9 hvm9 ht9 hw9 hs9 hS
  generalize H1 = H at hR ⊢
  refine lv_aload_n hx hb dX5_setStage_13 rfl (lv_at hl 0 rfl) ?_
  refine lv_iconst (v := 0) hx hb dX5_setStage_14 (by decide) ?_
  refine va_put (D := rD g) (ci := 5) (v := .int 0) (ty := .int) (C := RX5) (T := TX5) (N := 20) hx hb hts inX5 tyX5 tyX5_ok nmX5 hown hR.K hR.P hR.D hR.sS 44 (hR.at45 (hR.w.2.1 _ finC_29).2.1) rfl 3 (by decide) (hts _ kw_1009) (fun _ h9 => h9) rfl (by decide +kernel) rfl rfl (Nat.le_of_ble_eq_true rfl) dX5_setStage_15 (fun H locs hP hD hS => ?_)
  have hTk9 : qT S3 44 = 45 := (hR.w.2.1 _ finC_29).2.1
  have hR : RepC g ad A s (wI S3 44 3 (0 : Int32)) H locs := hR.pI45 (hR.w.2.1 _ finC_29).2.1 FX5_s3 (fun q9 => absurd q9 (by decide)) hP hD hS
  obtain ⟨S5, eS5⟩ : ∃ z, z = wI S3 44 3 (0 : Int32) := ⟨_, rfl⟩
  rw [← eS5] at hR
  replace h := h S5 eS5 hTk9 hR.w
  have hT_p1 : qT S5 p1 = 49 := (congrArg (fun z => qT z p1) eS5).trans hT_p1
  have hsh : shy S S5 := by rw [eS5]; exact hsh
  refine lv_aload_n hx hb dX5_setStage_18 rfl (lv_at hl 0 rfl) ?_
  refine lv_iconst (v := 0) hx hb dX5_setStage_19 (by decide) ?_
  refine va_put (D := rD g) (ci := 5) (v := .int 0) (ty := .int) (C := RX5) (T := TX5) (N := 20) hx hb hts inX5 tyX5 tyX5_ok nmX5 hown hR.K hR.P hR.D hR.sS 44 (hR.at45 (hR.w.2.1 _ finC_29).2.1) rfl 5 (by decide) (hts _ kw_1008) (fun _ h9 => h9) rfl (by decide +kernel) rfl rfl (Nat.le_of_ble_eq_true rfl) dX5_setStage_20 (fun H locs hP hD hS => ?_)
  have hTk9 : qT S5 44 = 45 := (hR.w.2.1 _ finC_29).2.1
  have hR : RepC g ad A s (wI S5 44 5 (0 : Int32)) H locs := hR.pI45 (hR.w.2.1 _ finC_29).2.1 FX5_s5 (fun q9 => absurd q9 (by decide)) hP hD hS
  obtain ⟨S6, eS6⟩ : ∃ z, z = wI S5 44 5 (0 : Int32) := ⟨_, rfl⟩
  rw [← eS6] at hR
  replace h := h S6 eS6 hTk9 hR.w
  have hT_p1 : qT S6 p1 = 49 := (congrArg (fun z => qT z p1) eS6).trans hT_p1
  have hsh : shy S S6 := by rw [eS6]; exact hsh
  exact W.vret hx hb hr (fun t9 ht9 hW9 => ⟨⟨S6, rfl, ⟨h, hR.w, hsh⟩, ⟨by rw [ht9]; exact hR.P, hR.D⟩⟩, hR.sS.F ht9⟩) hR.sS.2.2 dX5_setStage_23
def wX5_addArgument (S : MS) (y1 : Int64) (Q : Int32 → MS → Prop) : Prop := (((qI S 44 7).toInt < 8 → (((0 : Int) ≤ (qI S 44 7).toInt ∧ (qI S 44 7).toInt < 8) ∧ (∀ S3, S3 = wJ S 48 (((qI S 44 7).toInt).toNat) y1 → qT S 48 = 403 → wfC S3 → (∀ S5, S5 = wI S3 44 7 ((qI S3 44 7) + (1 : Int32)) → qT S3 44 = 45 → wfC S5 → Q (qI S5 44 7) S5)))) ∧ (¬ (qI S 44 7).toInt < 8 → Q (-1 : Int32) S))
set_option maxHeartbeats 2000000 in
set_option maxRecDepth 100000 in
theorem rX5_addArgument (l : Launch) (g : Gr) (ad : Nat → Nat) (sz : Nat) (S : MS) (y1 : Int64) (hw : wfC S) (Q : Int32 → MS → Prop) (h : wX5_addArgument S y1 Q) : Met l yX5_addArgument (wt yX5_addArgument cX5_addArgument 3 (some .int)) ({ frames := 0, cells := 0, slots := 0, locals := 0 }) (va_Pc [.ref (ad 44), .long y1] (st_C g ad sz S)) (va_Qi (fun (r : Int32) (u : MS) => Q r u ∧ wfC u ∧ shy S u) (fun (u : MS) (t : State) => qEC g ad (va_A (WdC g ad S) sz) u t) (va_A (WdC g ad S) sz)) 0 0 (va_A (WdC g ad S) sz) := by
  refine Met.ofW (cc := cX5_addArgument) (maxL := 3) (ret := (some .int)) (by decide) rfl ?_
  intro p e s m args below meth c s₁ B hml hv
  obtain ⟨rfl, hsz, hP, hK, hD0, hex, hE⟩ := hv
  have hx := B.exec
  have hb := B.bytes
  have hr := B.returns
  have hts0 := atoms_spec (ws := wt yX5_addArgument cX5_addArgument 3 (some .int)) B.pre
  have hts : ∀ w ∈ tb, w.before _ s = true := fun w h => hts0 w (List.mem_cons_of_mem _ h)
  have hown : s.vm.findClass RX5 = some m.cls := findClass_of_methodNamed B.named
  subst hsz
  have hD := hD0.self (sz := s.heap.size)
  generalize hAe : va_A (WdC g ad S) s.heap.size = A at hD hE ⊢
  have hA : ∀ q : Nat, s.heap.size ≤ q → A q := fun q h => by rw [← hAe]; exact Or.inr h
  have hR : RepC g ad A s S s.heap [] := ⟨hK, hP, hD, va_S.rf, hw⟩
  clear hK hP hD hD0
  have hl := lv_entry ([.ref (ad 44), .long y1]) (n := 3) (Nat.le_of_ble_eq_true rfl)
  rw [lg_entry_eq]
  generalize (lg_sl ([.ref (ad 44), .long y1]) ++ List.replicate (3 - (lg_sl ([.ref (ad 44), .long y1])).length) Slot.unset).toArray = ls at hl ⊢
  have hl : lv_has ls 3 [(0, .ref (ad 44)), (1, .long y1)] := hl
  have hsh : shy S S := shy.rf
  unfold wX5_addArgument at h
  refine lv_aload_n hx hb dX5_addArgument_0 rfl (lv_at hl 0 rfl) ?_
  refine va_get (D := rD g) (ci := 5) (v := .int (qI S 44 7)) (C := RX5) (T := TX5) (N := 20) hx hb hts inX5 hown hR.K hR.P 44 (hR.at45 (hR.w.2.1 _ finC_29).2.1) rfl 7 (by decide) (hts _ kw_1003) (fun _ h9 => h9) rfl dX5_addArgument_1 ?_
  refine lv_bipush (v := 8) hx hb dX5_addArgument_4 (by decide) ?_
  refine lv_icmp_lt (tgt := 11) hx hb dX5_addArgument_6 (by decide) (fun c1 => ?_) (fun c1 => ?_)
  · replace h := h.1 (k_lt rfl (by decide) c1)
    refine lv_aload_n hx hb dX5_addArgument_11 rfl (lv_at hl 0 rfl) ?_
    refine va_get (D := rD g) (ci := 5) (v := .ref (ad 48)) (C := RX5) (T := TX5) (N := 20) hx hb hts inX5 hown hR.K hR.P 44 (hR.at45 (hR.w.2.1 _ finC_29).2.1) rfl 6 (by decide) (hts _ kw_1004) (fun _ h9 => h9) (congrArg (fun z => some (vf ad z)) (hR.w.2.1 _ finC_5).1) dX5_addArgument_12 ?_
    refine lv_aload_n hx hb dX5_addArgument_15 rfl (lv_at hl 0 rfl) ?_
    refine va_get (D := rD g) (ci := 5) (v := .int (qI S 44 7)) (C := RX5) (T := TX5) (N := 20) hx hb hts inX5 hown hR.K hR.P 44 (hR.at45 (hR.w.2.1 _ finC_29).2.1) rfl 7 (by decide) (hts _ kw_1003) (fun _ h9 => h9) rfl dX5_addArgument_16 ?_
    refine lv_lload_n hx hb dX5_addArgument_19 rfl (lv_at hl 1 rfl) ?_
    obtain ⟨hv2, h⟩ := h
    refine va_last hx hb hR.K hR.P hR.D hR.sS 48 3 (hR.atL (hR.w.2.1 _ finC_5).2.1 (by decide)) rfl (k_ixN (k_ix (n := 8) (x := (qI S 44 7)) (a := (qI S 44 7).toInt) rfl hv2) (hR.w.2.1 _ finC_5).2.2) dX5_addArgument_20 (fun H locs hP hD hS => ?_)
    have hTk9 : qT S 48 = 403 := (hR.w.2.1 _ finC_5).2.1
    have hR : RepC g ad A s (wJ S 48 (((qI S 44 7).toInt).toNat) y1) H locs := hR.aL (hR.w.2.1 _ finC_5).2.1 (by decide) hP hD hS
    obtain ⟨S3, eS3⟩ : ∃ z, z = wJ S 48 (((qI S 44 7).toInt).toNat) y1 := ⟨_, rfl⟩
    rw [← eS3] at hR
    replace h := h S3 eS3 hTk9 hR.w
    have hsh : shy S S3 := by rw [eS3]; exact hsh
    refine lv_aload_n hx hb dX5_addArgument_21 rfl (lv_at hl 0 rfl) ?_
    refine lv_dup hx hb dX5_addArgument_22 rfl ?_
    refine va_get (D := rD g) (ci := 5) (v := .int (qI S3 44 7)) (C := RX5) (T := TX5) (N := 20) hx hb hts inX5 hown hR.K hR.P 44 (hR.at45 (hR.w.2.1 _ finC_29).2.1) rfl 7 (by decide) (hts _ kw_1003) (fun _ h9 => h9) rfl dX5_addArgument_23 ?_
    refine lv_iconst (v := 1) hx hb dX5_addArgument_26 (by decide) ?_
    refine lv_iadd hx hb dX5_addArgument_27 ?_
    refine lv_topi (fun z4 ez4 => ?_)
    obtain rfl : z4 = ((qI S3 44 7) + (1 : Int32)) := ez4
    refine va_put (D := rD g) (ci := 5) (v := .int ((qI S3 44 7) + (1 : Int32))) (ty := .int) (C := RX5) (T := TX5) (N := 20) hx hb hts inX5 tyX5 tyX5_ok nmX5 hown hR.K hR.P hR.D hR.sS 44 (hR.at45 (hR.w.2.1 _ finC_29).2.1) rfl 7 (by decide) (hts _ kw_1003) (fun _ h9 => h9) rfl (by decide +kernel) rfl rfl (Nat.le_of_ble_eq_true rfl) dX5_addArgument_28 (fun H locs hP hD hS => ?_)
    have hTk9 : qT S3 44 = 45 := (hR.w.2.1 _ finC_29).2.1
    have hR : RepC g ad A s (wI S3 44 7 ((qI S3 44 7) + (1 : Int32))) H locs := hR.pI45 (hR.w.2.1 _ finC_29).2.1 FX5_s7 (fun q9 => absurd q9 (by decide)) hP hD hS
    obtain ⟨S5, eS5⟩ : ∃ z, z = wI S3 44 7 ((qI S3 44 7) + (1 : Int32)) := ⟨_, rfl⟩
    rw [← eS5] at hR
    replace h := h S5 eS5 hTk9 hR.w
    have hsh : shy S S5 := by rw [eS5]; exact hsh
    refine lv_aload_n hx hb dX5_addArgument_31 rfl (lv_at hl 0 rfl) ?_
    refine va_get (D := rD g) (ci := 5) (v := .int (qI S5 44 7)) (C := RX5) (T := TX5) (N := 20) hx hb hts inX5 hown hR.K hR.P 44 (hR.at45 (hR.w.2.1 _ finC_29).2.1) rfl 7 (by decide) (hts _ kw_1003) (fun _ h9 => h9) rfl dX5_addArgument_32 ?_
    exact W.iret (v := (qI S5 44 7)) hx hb hr (fun t9 ht9 hW9 => ⟨⟨_, S5, rfl, ⟨h, hR.w, hsh⟩, ⟨by rw [ht9]; exact hR.P, hR.D⟩⟩, hR.sS.F ht9⟩) hR.sS.2.2 dX5_addArgument_35
  · replace h := h.2 (k_nlt rfl (by decide) c1)
    refine lv_iconst (v := (-1)) hx hb dX5_addArgument_9 (by decide) ?_
    exact W.iret (v := (-1)) hx hb hr (fun t9 ht9 hW9 => ⟨⟨_, S, rfl, ⟨h, hR.w, hsh⟩, ⟨by rw [ht9]; exact hR.P, hR.D⟩⟩, hR.sS.F ht9⟩) hR.sS.2.2 dX5_addArgument_10
