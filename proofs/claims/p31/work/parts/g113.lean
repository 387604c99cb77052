def w_reach_J119 (Q : MS → Prop) (k41 : MS → Int32 → Int32 → Prop) (U119 : MS) (v119_1 : Int32) (v119_2 : Int32) : Prop := (∀ a9 : Int32, a9 = (v119_2 + Int32.ofInt 1) → k41 U119 v119_1 a9)
def w_reach_J100 (Q : MS → Prop) (k56 : MS → Int32 → Int32 → Int32 → Prop) (U100 : MS) (t100_0 : Int32) (v100_2 : Int32) (v100_3 : Int32) : Prop := (((0 : Int) ≤ v100_3.toInt ∧ v100_3.toInt < 24000) ∧ (((0 : Int) ≤ (qI U100 52 v100_3.toInt.toNat).toInt ∧ (qI U100 52 v100_3.toInt.toNat).toInt < 1200) ∧ (∀ S18, S18 = wI U100 53 (((qI U100 52 v100_3.toInt.toNat).toInt).toNat) (vp_nar .boolean (1 : Int32)) → (∀ a19 : Int32, a19 = (v100_3 + Int32.ofInt 1) → k56 S18 t100_0 v100_2 a19))))
def w_reach_J95 (Q : MS → Prop) (k56 : MS → Int32 → Int32 → Int32 → Prop) (U95 : MS) (v95_2 : Int32) (v95_3 : Int32) : Prop := w_reach_J100 Q k56 U95 1 v95_2 v95_3
def w_reach_L56 (Q : MS → Prop) (k41 : MS → Int32 → Int32 → Prop) : Nat → MS → Int32 → Int32 → Int32 → Prop
  | 0, _, _, _, _ => False
  | n56 + 1, U56, v56_1, v56_2, v56_3 => (((0 : Int) ≤ v56_2.toInt ∧ v56_2.toInt < 1200) ∧ (((qI U56 53 v56_2.toInt.toNat).toInt = 0 → w_reach_J119 Q k41 U56 v56_1 v56_2) ∧ (¬ (qI U56 53 v56_2.toInt.toNat).toInt = 0 → (((0 : Int) ≤ (v56_2 + (1 : Int32)).toInt ∧ (v56_2 + (1 : Int32)).toInt < 1202) ∧ (((qI U56 51 (((v56_2 + (1 : Int32)).toInt).toNat)).toInt ≤ v56_3.toInt → w_reach_J119 Q k41 U56 v56_1 v56_2) ∧ (¬ (qI U56 51 (((v56_2 + (1 : Int32)).toInt).toNat)).toInt ≤ v56_3.toInt → ((v56_1.toInt = 0 → (((0 : Int) ≤ v56_3.toInt ∧ v56_3.toInt < 24000) ∧ (((0 : Int) ≤ (qI U56 52 v56_3.toInt.toNat).toInt ∧ (qI U56 52 v56_3.toInt.toNat).toInt < 1200) ∧ (((qI U56 53 (((qI U56 52 v56_3.toInt.toNat).toInt).toNat)).toInt = 0 → w_reach_J95 Q (w_reach_L56 Q k41 n56) U56 v56_2 v56_3) ∧ (¬ (qI U56 53 (((qI U56 52 v56_3.toInt.toNat).toInt).toNat)).toInt = 0 → w_reach_J100 Q (w_reach_L56 Q k41 n56) U56 0 v56_2 v56_3))))) ∧ (¬ v56_1.toInt = 0 → w_reach_J95 Q (w_reach_L56 Q k41 n56) U56 v56_2 v56_3))))))))
def w_reach_L41 (Q : MS → Prop) (k33 : MS → Int32 → Prop) : Nat → MS → Int32 → Int32 → Prop
  | 0, _, _, _ => False
  | n41 + 1, U41, v41_1, v41_2 => (((qI U41 0 105).toInt ≤ v41_2.toInt → k33 U41 v41_1) ∧ (¬ (qI U41 0 105).toInt ≤ v41_2.toInt → (((0 : Int) ≤ v41_2.toInt ∧ v41_2.toInt < 1202) ∧ (∀ a6 : Int32, a6 = (qI U41 51 v41_2.toInt.toNat) → (∃ n, w_reach_L56 Q (w_reach_L41 Q k33 n41) n U41 v41_1 v41_2 a6)))))
def w_reach_L33 (Q : MS → Prop) : Nat → MS → Int32 → Prop
  | 0, _, _ => False
  | n33 + 1, U33, v33_1 => ((v33_1.toInt = 0 → Q U33) ∧ (¬ v33_1.toInt = 0 → (∃ n, w_reach_L41 Q (w_reach_L33 Q n33) n U33 0 0)))
def w_reach_J24 (Q : MS → Prop) (k2 : MS → Int32 → Prop) (U24 : MS) (t24_0 : Int32) (t24_1 : Int32) (v24_1 : Int32) : Prop := (((0 : Int) ≤ t24_1.toInt ∧ t24_1.toInt < 1200) ∧ (∀ S27, S27 = wI U24 53 t24_1.toInt.toNat (vp_nar .boolean t24_0) → (∀ a28 : Int32, a28 = (v24_1 + Int32.ofInt 1) → k2 S27 a28)))
def w_reach_L2 (Q : MS → Prop) : Nat → MS → Int32 → Prop
  | 0, _, _ => False
  | n2 + 1, U2, v2_1 => (((qI U2 0 105).toInt ≤ v2_1.toInt → (∃ n, w_reach_L33 Q n U2 1)) ∧ (¬ (qI U2 0 105).toInt ≤ v2_1.toInt → ((v2_1.toInt = 0 → w_reach_J24 Q (w_reach_L2 Q n2) U2 1 v2_1 v2_1) ∧ (¬ v2_1.toInt = 0 → w_reach_J24 Q (w_reach_L2 Q n2) U2 0 v2_1 v2_1))))
def w_reach (S : MS) (Q : MS → Prop) : Prop := (∃ n, w_reach_L2 Q n S 0)
set_option maxHeartbeats 2000000 in
set_option maxRecDepth 100000 in
theorem r_reach (l : Launch) (g : Gr) (ad : Nat → Nat) (sz : Nat) (S : MS) (hw : wfM S) (Q : MS → Prop) (h : w_reach S Q) : Met l yX14_reach (wt2 yX14_reach cX14_reach 4 none) ({ frames := 0, cells := 0, slots := 0, locals := 0 }) (va_Pc [.ref (ad 0)] (st_R g ad sz S)) (va_Qv (fun (u : MS) => Q u ∧ wfM u ∧ shy S u) (fun (u : MS) (t : State) => qE g ad (va_A (Wd g ad S) sz) u t) (va_A (Wd g ad S) sz)) 0 0 (va_A (Wd g ad S) sz) := by
  refine Met.ofW (cc := cX14_reach) (maxL := 4) (ret := none) (by decide) rfl ?_
  intro p e s m args below meth c s₁ B hml hv
  obtain ⟨rfl, hsz, hP, hK, hD0, hex, hE⟩ := hv
  have hx := B.exec
  have hb := B.bytes
  have hr := B.returns
  have hts0 := atoms_spec (ws := wt2 yX14_reach cX14_reach 4 none) B.pre
  have hts : ∀ w ∈ tb2, w.before _ s = true := fun w h => hts0 w (List.mem_cons_of_mem _ h)
  have hown : s.vm.findClass RX14 = some m.cls := findClass_of_methodNamed B.named
  subst hsz
  have hD := hD0.self (sz := s.heap.size)
  generalize hAe : va_A (Wd g ad S) s.heap.size = A at hD hE ⊢
  have hA : ∀ q : Nat, s.heap.size ≤ q → A q := fun q h => by rw [← hAe]; exact Or.inr h
  have hR : Rep g ad A s S s.heap [] := ⟨hK, hP, hD, va_S.rf, hw⟩
  clear hK hP hD hD0
  have hl := lv_entry ([.ref (ad 0)]) (n := 4) (Nat.le_of_ble_eq_true rfl)
  rw [lg_entry_eq]
  generalize (lg_sl ([.ref (ad 0)]) ++ List.replicate (4 - (lg_sl ([.ref (ad 0)])).length) Slot.unset).toArray = ls at hl ⊢
  have hl : lv_has ls 4 [(0, .ref (ad 0))] := hl
  have hsh : shy S S := shy.rf
  unfold w_reach at h
  refine lv_iconst (v := 0) hx hb dX14_reach_0 (by decide) ?_
  refine lv_istore_n (lv' := [(1, .int 0), (0, .ref (ad 0))]) hx hb dX14_reach_1 rfl hl (by decide) rfl (fun ls hl => ?_)
  have J_2 : ∀ (n2 : Nat) (U2 : MS) (v2_1 : Int32) (H : Heap) (locs : List Loc) (ls : Array Slot), w_reach_L2 Q n2 U2 v2_1 → shy S U2 → Rep g ad A s U2 H locs → lv_has ls 4 [(0, .ref (ad 0)), (1, .int v2_1)] → W p l e (headSpec (wt2 yX14_reach cX14_reach 4 none) ({ frames := 0, cells := 0, slots := 0, locals := 0 })).room s m ([.ref (ad 0)] : List Value).toArray below meth c H locs 0 0 (MQ below (va_Qv (fun (u : MS) => Q u ∧ wfM u ∧ shy S u) (fun (u : MS) (t : State) => qE g ad A u t) A) ([.ref (ad 0)] : List Value).toArray s 0 0 A) (F0 m 2 ls []) := by
    intro n2
    induction n2 with
    | zero => intro U2 v2_1 H locs ls h hsh hR hl; unfold w_reach_L2 at h; exact h.elim
    | succ n2 ih_2 =>
      intro U2 v2_1 H locs ls h hsh hR hl
      unfold w_reach_L2 at h
      refine lv_iload_n hx hb dX14_reach_2 rfl (lv_at hl 1 rfl) ?_
      refine lv_aload_n hx hb dX14_reach_3 rfl (lv_at hl 0 rfl) ?_
      refine va_get (D := rD g) (ci := 13) (v := .int (qI U2 0 105)) (C := RX14) (T := TX14) (N := 143) hx hb hts in2X14 hown hR.K hR.P 0 (hR.at14 hR.w.1) rfl 105 (by decide) (hts _ kx_670) (fun _ h9 => h9) rfl dX14_reach_4 ?_
      refine lv_icmp_ge (tgt := 31) hx hb dX14_reach_7 (by decide) (fun c1 => ?_) (fun c1 => ?_)
      · replace h := h.1 (k_le rfl rfl c1)
        refine lv_iconst (v := 1) hx hb dX14_reach_31 (by decide) ?_
        refine lv_istore_n (lv' := [(1, .int 1), (0, .ref (ad 0))]) hx hb dX14_reach_32 rfl hl (by decide) rfl (fun ls hl => ?_)
        have J_33 : ∀ (n33 : Nat) (U33 : MS) (v33_1 : Int32) (H : Heap) (locs : List Loc) (ls : Array Slot), w_reach_L33 Q n33 U33 v33_1 → shy S U33 → Rep g ad A s U33 H locs → lv_has ls 4 [(0, .ref (ad 0)), (1, .int v33_1)] → W p l e (headSpec (wt2 yX14_reach cX14_reach 4 none) ({ frames := 0, cells := 0, slots := 0, locals := 0 })).room s m ([.ref (ad 0)] : List Value).toArray below meth c H locs 0 0 (MQ below (va_Qv (fun (u : MS) => Q u ∧ wfM u ∧ shy S u) (fun (u : MS) (t : State) => qE g ad A u t) A) ([.ref (ad 0)] : List Value).toArray s 0 0 A) (F0 m 33 ls []) := by
          intro n33
          induction n33 with
          | zero => intro U33 v33_1 H locs ls h hsh hR hl; unfold w_reach_L33 at h; exact h.elim
          | succ n33 ih_33 =>
            intro U33 v33_1 H locs ls h hsh hR hl
            unfold w_reach_L33 at h
            refine lv_iload_n hx hb dX14_reach_33 rfl (lv_at hl 1 rfl) ?_
            refine lv_if_eq (tgt := 128) hx hb dX14_reach_34 (by decide) (fun c2 => ?_) (fun c2 => ?_)
            · replace h := h.1 (k_eq rfl (by decide) c2)
              exact W.vret hx hb hr (fun t9 ht9 hW9 => ⟨⟨U33, rfl, ⟨h, hR.w, hsh⟩, ⟨by rw [ht9]; exact hR.P, hR.D⟩⟩, hR.sS.F ht9⟩) hR.sS.2.2 dX14_reach_128
            · replace h := h.2 (k_ne rfl (by decide) c2)
              refine lv_iconst (v := 0) hx hb dX14_reach_37 (by decide) ?_
              refine lv_istore_n (lv' := [(1, .int 0), (0, .ref (ad 0))]) hx hb dX14_reach_38 rfl hl (by decide) rfl (fun ls hl => ?_)
              refine lv_iconst (v := 0) hx hb dX14_reach_39 (by decide) ?_
              refine lv_istore_n (lv' := [(2, .int 0), (1, .int 0), (0, .ref (ad 0))]) hx hb dX14_reach_40 rfl hl (by decide) rfl (fun ls hl => ?_)
              have J_41 : ∀ (n41 : Nat) (U41 : MS) (v41_1 : Int32) (v41_2 : Int32) (H : Heap) (locs : List Loc) (ls : Array Slot), w_reach_L41 Q (w_reach_L33 Q n33) n41 U41 v41_1 v41_2 → shy S U41 → Rep g ad A s U41 H locs → lv_has ls 4 [(0, .ref (ad 0)), (1, .int v41_1), (2, .int v41_2)] → W p l e (headSpec (wt2 yX14_reach cX14_reach 4 none) ({ frames := 0, cells := 0, slots := 0, locals := 0 })).room s m ([.ref (ad 0)] : List Value).toArray below meth c H locs 0 0 (MQ below (va_Qv (fun (u : MS) => Q u ∧ wfM u ∧ shy S u) (fun (u : MS) (t : State) => qE g ad A u t) A) ([.ref (ad 0)] : List Value).toArray s 0 0 A) (F0 m 41 ls []) := by
                intro n41
                induction n41 with
                | zero => intro U41 v41_1 v41_2 H locs ls h hsh hR hl; unfold w_reach_L41 at h; exact h.elim
                | succ n41 ih_41 =>
                  intro U41 v41_1 v41_2 H locs ls h hsh hR hl
                  unfold w_reach_L41 at h
                  refine lv_iload_n hx hb dX14_reach_41 rfl (lv_at hl 2 rfl) ?_
                  refine lv_aload_n hx hb dX14_reach_42 rfl (lv_at hl 0 rfl) ?_
                  refine va_get (D := rD g) (ci := 13) (v := .int (qI U41 0 105)) (C := RX14) (T := TX14) (N := 143) hx hb hts in2X14 hown hR.K hR.P 0 (hR.at14 hR.w.1) rfl 105 (by decide) (hts _ kx_670) (fun _ h9 => h9) rfl dX14_reach_43 ?_
                  refine lv_icmp_ge (tgt := 125) hx hb dX14_reach_46 (by decide) (fun c3 => ?_) (fun c3 => ?_)
                  · replace h := h.1 (k_le rfl rfl c3)
                    refine lv_goto (tgt := 33) hx hb dX14_reach_125 (by decide) ?_
                    exact ih_33 U41 v41_1 _ _ ls h  hsh hR (lv_sub hl [0, 1] rfl)
                  · replace h := h.2 (k_nle rfl rfl c3)
                    refine lv_aload_n hx hb dX14_reach_49 rfl (lv_at hl 0 rfl) ?_
                    refine va_get (D := rD g) (ci := 13) (v := .ref (ad 51)) (C := RX14) (T := TX14) (N := 143) hx hb hts in2X14 hown hR.K hR.P 0 (hR.at14 hR.w.1) rfl 108 (by decide) (hts _ kx_672) (fun _ h9 => h9) (congrArg (fun z => some (vf ad z)) (hR.w.2.1 _ fin_108).1) dX14_reach_50 ?_
                    refine lv_iload_n hx hb dX14_reach_53 rfl (lv_at hl 2 rfl) ?_
                    obtain ⟨hv4, h⟩ := h
                    refine va_iald hx hb hR.K hR.P 51 1 (hR.atI (hR.w.2.1 _ fin_108).2.1) rfl (k_ixN (k_ix (n := 1202) (x := v41_2) (a := v41_2.toInt) rfl hv4) (hR.w.2.1 _ fin_108).2.2) dX14_reach_54 ?_
                    refine lv_topi (fun z5 ez5 => ?_)
                    obtain rfl : z5 = (qI U41 51 v41_2.toInt.toNat) := ez5
                    obtain ⟨a6, ea6⟩ : ∃ z, z = (qI U41 51 v41_2.toInt.toNat) := ⟨_, rfl⟩
                    rw [← ea6]
                    replace h := h a6 ea6
                    refine lv_istore_n (lv' := [(3, .int a6), (0, .ref (ad 0)), (1, .int v41_1), (2, .int v41_2)]) hx hb dX14_reach_55 rfl hl (by decide) rfl (fun ls hl => ?_)
                    have J_56 : ∀ (n56 : Nat) (U56 : MS) (v56_1 : Int32) (v56_2 : Int32) (v56_3 : Int32) (H : Heap) (locs : List Loc) (ls : Array Slot), w_reach_L56 Q (w_reach_L41 Q (w_reach_L33 Q n33) n41) n56 U56 v56_1 v56_2 v56_3 → shy S U56 → Rep g ad A s U56 H locs → lv_has ls 4 [(0, .ref (ad 0)), (1, .int v56_1), (2, .int v56_2), (3, .int v56_3)] → W p l e (headSpec (wt2 yX14_reach cX14_reach 4 none) ({ frames := 0, cells := 0, slots := 0, locals := 0 })).room s m ([.ref (ad 0)] : List Value).toArray below meth c H locs 0 0 (MQ below (va_Qv (fun (u : MS) => Q u ∧ wfM u ∧ shy S u) (fun (u : MS) (t : State) => qE g ad A u t) A) ([.ref (ad 0)] : List Value).toArray s 0 0 A) (F0 m 56 ls []) := by
                      intro n56
                      induction n56 with
                      | zero => intro U56 v56_1 v56_2 v56_3 H locs ls h hsh hR hl; unfold w_reach_L56 at h; exact h.elim
                      | succ n56 ih_56 =>
                        intro U56 v56_1 v56_2 v56_3 H locs ls h hsh hR hl
                        unfold w_reach_L56 at h
                        refine lv_aload_n hx hb dX14_reach_56 rfl (lv_at hl 0 rfl) ?_
                        refine va_get (D := rD g) (ci := 13) (v := .ref (ad 53)) (C := RX14) (T := TX14) (N := 143) hx hb hts in2X14 hown hR.K hR.P 0 (hR.at14 hR.w.1) rfl 111 (by decide) (hts _ kx_679) (fun _ h9 => h9) (congrArg (fun z => some (vf ad z)) (hR.w.2.1 _ fin_111).1) dX14_reach_57 ?_
                        refine lv_iload_n hx hb dX14_reach_60 rfl (lv_at hl 2 rfl) ?_
                        obtain ⟨hv7, h⟩ := h
                        refine va_zald hx hb hR.K hR.P 53 2 (hR.atZ (hR.w.2.1 _ fin_111).2.1) rfl (k_ixN (k_ix (n := 1200) (x := v56_2) (a := v56_2.toInt) rfl hv7) (hR.w.2.1 _ fin_111).2.2) dX14_reach_61 ?_
                        refine lv_topi (fun z8 ez8 => ?_)
                        obtain rfl : z8 = (qI U56 53 v56_2.toInt.toNat) := ez8
                        have J_119 : ∀ (U119 : MS) (v119_1 : Int32) (v119_2 : Int32) (H : Heap) (locs : List Loc) (ls : Array Slot), w_reach_J119 Q (w_reach_L41 Q (w_reach_L33 Q n33) n41) U119 v119_1 v119_2 → shy S U119 → Rep g ad A s U119 H locs → lv_has ls 4 [(0, .ref (ad 0)), (1, .int v119_1), (2, .int v119_2)] → W p l e (headSpec (wt2 yX14_reach cX14_reach 4 none) ({ frames := 0, cells := 0, slots := 0, locals := 0 })).room s m ([.ref (ad 0)] : List Value).toArray below meth c H locs 0 0 (MQ below (va_Qv (fun (u : MS) => Q u ∧ wfM u ∧ shy S u) (fun (u : MS) (t : State) => qE g ad A u t) A) ([.ref (ad 0)] : List Value).toArray s 0 0 A) (F0 m 119 ls []) := by
                          intro U119 v119_1 v119_2 H locs ls h hsh hR hl
                          unfold w_reach_J119 at h
                          obtain ⟨a9, ea9⟩ : ∃ z, z = (v119_2 + Int32.ofInt 1) := ⟨_, rfl⟩
                          replace h := h a9 ea9
                          refine lv_iinc (v := a9) (lv' := [(2, .int a9), (0, .ref (ad 0)), (1, .int v119_1)]) hx hb dX14_reach_119 hl (k := 2) rfl ea9.symm (by decide) rfl (fun ls hl => ?_)
                          refine lv_goto (tgt := 41) hx hb dX14_reach_122 (by decide) ?_
                          exact ih_41 U119 v119_1 a9 _ _ ls h  hsh hR (lv_sub hl [1, 2, 0] rfl)
                        refine lv_if_eq (tgt := 119) hx hb dX14_reach_62 (by decide) (fun c10 => ?_) (fun c10 => ?_)
                        · replace h := h.1 (k_eq rfl (by decide) c10)
                          exact J_119 U56 v56_1 v56_2 _ _ ls h  hsh hR (lv_sub hl [0, 1, 2] rfl)
                        · replace h := h.2 (k_ne rfl (by decide) c10)
                          refine lv_iload_n hx hb dX14_reach_65 rfl (lv_at hl 3 rfl) ?_
                          refine lv_aload_n hx hb dX14_reach_66 rfl (lv_at hl 0 rfl) ?_
                          refine va_get (D := rD g) (ci := 13) (v := .ref (ad 51)) (C := RX14) (T := TX14) (N := 143) hx hb hts in2X14 hown hR.K hR.P 0 (hR.at14 hR.w.1) rfl 108 (by decide) (hts _ kx_672) (fun _ h9 => h9) (congrArg (fun z => some (vf ad z)) (hR.w.2.1 _ fin_108).1) dX14_reach_67 ?_
                          refine lv_iload_n hx hb dX14_reach_70 rfl (lv_at hl 2 rfl) ?_
                          refine lv_iconst (v := 1) hx hb dX14_reach_71 (by decide) ?_
                          refine lv_iadd hx hb dX14_reach_72 ?_
                          refine lv_topi (fun z11 ez11 => ?_)
                          obtain rfl : z11 = (v56_2 + (1 : Int32)) := ez11
                          obtain ⟨hv12, h⟩ := h
                          refine va_iald hx hb hR.K hR.P 51 1 (hR.atI (hR.w.2.1 _ fin_108).2.1) rfl (k_ixN (k_ix (n := 1202) (x := (v56_2 + (1 : Int32))) (a := (v56_2 + (1 : Int32)).toInt) rfl hv12) (hR.w.2.1 _ fin_108).2.2) dX14_reach_73 ?_
                          refine lv_topi (fun z13 ez13 => ?_)
                          obtain rfl : z13 = (qI U56 51 (((v56_2 + (1 : Int32)).toInt).toNat)) := ez13
                          refine lv_icmp_ge (tgt := 119) hx hb dX14_reach_74 (by decide) (fun c14 => ?_) (fun c14 => ?_)
                          · replace h := h.1 (k_le rfl rfl c14)
                            exact J_119 U56 v56_1 v56_2 _ _ ls h  hsh hR (lv_sub hl [0, 1, 2] rfl)
                          · replace h := h.2 (k_nle rfl rfl c14)
                            refine lv_iload_n hx hb dX14_reach_77 rfl (lv_at hl 1 rfl) ?_
                            have J_100 : ∀ (U100 : MS) (t100_0 : Int32) (v100_2 : Int32) (v100_3 : Int32) (H : Heap) (locs : List Loc) (ls : Array Slot), w_reach_J100 Q (w_reach_L56 Q (w_reach_L41 Q (w_reach_L33 Q n33) n41) n56) U100 t100_0 v100_2 v100_3 → (t100_0 = 0 ∨ t100_0 = 1) → shy S U100 → Rep g ad A s U100 H locs → lv_has ls 4 [(0, .ref (ad 0)), (2, .int v100_2), (3, .int v100_3)] → W p l e (headSpec (wt2 yX14_reach cX14_reach 4 none) ({ frames := 0, cells := 0, slots := 0, locals := 0 })).room s m ([.ref (ad 0)] : List Value).toArray below meth c H locs 0 0 (MQ below (va_Qv (fun (u : MS) => Q u ∧ wfM u ∧ shy S u) (fun (u : MS) (t : State) => qE g ad A u t) A) ([.ref (ad 0)] : List Value).toArray s 0 0 A) (F0 m 100 ls [.int t100_0]) := by
                              intro U100 t100_0 v100_2 v100_3 H locs ls h hz_t100_0 hsh hR hl
                              unfold w_reach_J100 at h
                              refine lv_istore_n (lv' := [(1, .int t100_0), (0, .ref (ad 0)), (2, .int v100_2), (3, .int v100_3)]) hx hb dX14_reach_100 rfl hl (by decide) rfl (fun ls hl => ?_)
                              refine lv_aload_n hx hb dX14_reach_101 rfl (lv_at hl 1 rfl) ?_
                              refine va_get (D := rD g) (ci := 13) (v := .ref (ad 53)) (C := RX14) (T := TX14) (N := 143) hx hb hts in2X14 hown hR.K hR.P 0 (hR.at14 hR.w.1) rfl 111 (by decide) (hts _ kx_679) (fun _ h9 => h9) (congrArg (fun z => some (vf ad z)) (hR.w.2.1 _ fin_111).1) dX14_reach_102 ?_
                              refine lv_aload_n hx hb dX14_reach_105 rfl (lv_at hl 1 rfl) ?_
                              refine va_get (D := rD g) (ci := 13) (v := .ref (ad 52)) (C := RX14) (T := TX14) (N := 143) hx hb hts in2X14 hown hR.K hR.P 0 (hR.at14 hR.w.1) rfl 109 (by decide) (hts _ kx_674) (fun _ h9 => h9) (congrArg (fun z => some (vf ad z)) (hR.w.2.1 _ fin_109).1) dX14_reach_106 ?_
                              refine lv_iload_n hx hb dX14_reach_109 rfl (lv_at hl 3 rfl) ?_
                              obtain ⟨hv15, h⟩ := h
                              refine va_iald hx hb hR.K hR.P 52 1 (hR.atI (hR.w.2.1 _ fin_109).2.1) rfl (k_ixN (k_ix (n := 24000) (x := v100_3) (a := v100_3.toInt) rfl hv15) (hR.w.2.1 _ fin_109).2.2) dX14_reach_110 ?_
                              refine lv_topi (fun z16 ez16 => ?_)
                              obtain rfl : z16 = (qI U100 52 v100_3.toInt.toNat) := ez16
                              refine lv_iconst (v := 1) hx hb dX14_reach_111 (by decide) ?_
                              obtain ⟨hv17, h⟩ := h
                              refine va_zast hx hb hR.K hR.P hR.D hR.sS 53 2 (hR.atZ (hR.w.2.1 _ fin_111).2.1) rfl (k_ixN (k_ix (n := 1200) (x := (qI U100 52 v100_3.toInt.toNat)) (a := (qI U100 52 v100_3.toInt.toNat).toInt) rfl hv17) (hR.w.2.1 _ fin_111).2.2) dX14_reach_112 (fun H locs hP hD hS => ?_)
                              have hR : Rep g ad A s (wI U100 53 (((qI U100 52 v100_3.toInt.toNat).toInt).toNat) (vp_nar .boolean (1 : Int32))) H locs := hR.aZ (hR.w.2.1 _ fin_111).2.1 hP hD hS
                              obtain ⟨S18, eS18⟩ : ∃ z, z = wI U100 53 (((qI U100 52 v100_3.toInt.toNat).toInt).toNat) (vp_nar .boolean (1 : Int32)) := ⟨_, rfl⟩
                              rw [← eS18] at hR
                              replace h := h S18 eS18
                              have hsh : shy S S18 := by rw [eS18]; exact hsh
                              obtain ⟨a19, ea19⟩ : ∃ z, z = (v100_3 + Int32.ofInt 1) := ⟨_, rfl⟩
                              replace h := h a19 ea19
                              refine lv_iinc (v := a19) (lv' := [(3, .int a19), (1, .int t100_0), (0, .ref (ad 0)), (2, .int v100_2)]) hx hb dX14_reach_113 hl (k := 3) rfl ea19.symm (by decide) rfl (fun ls hl => ?_)
                              refine lv_goto (tgt := 56) hx hb dX14_reach_116 (by decide) ?_
                              exact ih_56 S18 t100_0 v100_2 a19 _ _ ls h  hsh hR (lv_sub hl [2, 1, 3, 0] rfl)
                            have J_95 : ∀ (U95 : MS) (v95_2 : Int32) (v95_3 : Int32) (H : Heap) (locs : List Loc) (ls : Array Slot), w_reach_J95 Q (w_reach_L56 Q (w_reach_L41 Q (w_reach_L33 Q n33) n41) n56) U95 v95_2 v95_3 → shy S U95 → Rep g ad A s U95 H locs → lv_has ls 4 [(0, .ref (ad 0)), (2, .int v95_2), (3, .int v95_3)] → W p l e (headSpec (wt2 yX14_reach cX14_reach 4 none) ({ frames := 0, cells := 0, slots := 0, locals := 0 })).room s m ([.ref (ad 0)] : List Value).toArray below meth c H locs 0 0 (MQ below (va_Qv (fun (u : MS) => Q u ∧ wfM u ∧ shy S u) (fun (u : MS) (t : State) => qE g ad A u t) A) ([.ref (ad 0)] : List Value).toArray s 0 0 A) (F0 m 95 ls []) := by
                              intro U95 v95_2 v95_3 H locs ls h hsh hR hl
                              unfold w_reach_J95 at h
                              refine lv_iconst (v := 1) hx hb dX14_reach_95 (by decide) ?_
                              refine lv_goto (tgt := 100) hx hb dX14_reach_96 (by decide) ?_
                              exact J_100 U95 1 v95_2 v95_3 _ _ ls h (Or.inr rfl) hsh hR (lv_sub hl [0, 1, 2] rfl)
                            refine lv_if_ne (tgt := 95) hx hb dX14_reach_78 (by decide) (fun c20 => ?_) (fun c20 => ?_)
                            · replace h := h.2 (k_ne rfl (by decide) c20)
                              exact J_95 U56 v56_2 v56_3 _ _ ls h  hsh hR (lv_sub hl [0, 2, 3] rfl)
                            · replace h := h.1 (k_eq rfl (by decide) c20)
                              refine lv_aload_n hx hb dX14_reach_81 rfl (lv_at hl 0 rfl) ?_
                              refine va_get (D := rD g) (ci := 13) (v := .ref (ad 53)) (C := RX14) (T := TX14) (N := 143) hx hb hts in2X14 hown hR.K hR.P 0 (hR.at14 hR.w.1) rfl 111 (by decide) (hts _ kx_679) (fun _ h9 => h9) (congrArg (fun z => some (vf ad z)) (hR.w.2.1 _ fin_111).1) dX14_reach_82 ?_
                              refine lv_aload_n hx hb dX14_reach_85 rfl (lv_at hl 0 rfl) ?_
                              refine va_get (D := rD g) (ci := 13) (v := .ref (ad 52)) (C := RX14) (T := TX14) (N := 143) hx hb hts in2X14 hown hR.K hR.P 0 (hR.at14 hR.w.1) rfl 109 (by decide) (hts _ kx_674) (fun _ h9 => h9) (congrArg (fun z => some (vf ad z)) (hR.w.2.1 _ fin_109).1) dX14_reach_86 ?_
                              refine lv_iload_n hx hb dX14_reach_89 rfl (lv_at hl 3 rfl) ?_
                              obtain ⟨hv21, h⟩ := h
                              refine va_iald hx hb hR.K hR.P 52 1 (hR.atI (hR.w.2.1 _ fin_109).2.1) rfl (k_ixN (k_ix (n := 24000) (x := v56_3) (a := v56_3.toInt) rfl hv21) (hR.w.2.1 _ fin_109).2.2) dX14_reach_90 ?_
                              refine lv_topi (fun z22 ez22 => ?_)
                              obtain rfl : z22 = (qI U56 52 v56_3.toInt.toNat) := ez22
                              obtain ⟨hv23, h⟩ := h
                              refine va_zald hx hb hR.K hR.P 53 2 (hR.atZ (hR.w.2.1 _ fin_111).2.1) rfl (k_ixN (k_ix (n := 1200) (x := (qI U56 52 v56_3.toInt.toNat)) (a := (qI U56 52 v56_3.toInt.toNat).toInt) rfl hv23) (hR.w.2.1 _ fin_111).2.2) dX14_reach_91 ?_
                              refine lv_topi (fun z24 ez24 => ?_)
                              obtain rfl : z24 = (qI U56 53 (((qI U56 52 v56_3.toInt.toNat).toInt).toNat)) := ez24
                              refine lv_if_ne (tgt := 99) hx hb dX14_reach_92 (by decide) (fun c25 => ?_) (fun c25 => ?_)
                              · replace h := h.2 (k_ne rfl (by decide) c25)
                                refine lv_iconst (v := 0) hx hb dX14_reach_99 (by decide) ?_
                                exact J_100 U56 0 v56_2 v56_3 _ _ ls h (Or.inl rfl) hsh hR (lv_sub hl [0, 2, 3] rfl)
                              · replace h := h.1 (k_eq rfl (by decide) c25)
                                exact J_95 U56 v56_2 v56_3 _ _ ls h  hsh hR (lv_sub hl [0, 2, 3] rfl)
                    obtain ⟨n9, h⟩ := h
                    exact J_56 n9 U41 v41_1 v41_2 a6 _ _ ls h  hsh hR (lv_sub hl [1, 2, 3, 0] rfl)
              obtain ⟨n9, h⟩ := h
              exact J_41 n9 U33 0 0 _ _ ls h  hsh hR (lv_sub hl [2, 1, 0] rfl)
        obtain ⟨n9, h⟩ := h
        exact J_33 n9 U2 1 _ _ ls h  hsh hR (lv_sub hl [1, 0] rfl)
      · replace h := h.2 (k_nle rfl rfl c1)
        refine lv_aload_n hx hb dX14_reach_10 rfl (lv_at hl 0 rfl) ?_
        refine va_get (D := rD g) (ci := 13) (v := .ref (ad 53)) (C := RX14) (T := TX14) (N := 143) hx hb hts in2X14 hown hR.K hR.P 0 (hR.at14 hR.w.1) rfl 111 (by decide) (hts _ kx_679) (fun _ h9 => h9) (congrArg (fun z => some (vf ad z)) (hR.w.2.1 _ fin_111).1) dX14_reach_11 ?_
        refine lv_iload_n hx hb dX14_reach_14 rfl (lv_at hl 1 rfl) ?_
        refine lv_iload_n hx hb dX14_reach_15 rfl (lv_at hl 1 rfl) ?_
        have J_24 : ∀ (U24 : MS) (t24_0 : Int32) (t24_1 : Int32) (v24_1 : Int32) (H : Heap) (locs : List Loc) (ls : Array Slot), w_reach_J24 Q (w_reach_L2 Q n2) U24 t24_0 t24_1 v24_1 → (t24_0 = 0 ∨ t24_0 = 1) → shy S U24 → Rep g ad A s U24 H locs → lv_has ls 4 [(0, .ref (ad 0)), (1, .int v24_1)] → W p l e (headSpec (wt2 yX14_reach cX14_reach 4 none) ({ frames := 0, cells := 0, slots := 0, locals := 0 })).room s m ([.ref (ad 0)] : List Value).toArray below meth c H locs 0 0 (MQ below (va_Qv (fun (u : MS) => Q u ∧ wfM u ∧ shy S u) (fun (u : MS) (t : State) => qE g ad A u t) A) ([.ref (ad 0)] : List Value).toArray s 0 0 A) (F0 m 24 ls [.int t24_0, .int t24_1, .ref (ad 53)]) := by
          intro U24 t24_0 t24_1 v24_1 H locs ls h hz_t24_0 hsh hR hl
          unfold w_reach_J24 at h
          obtain ⟨hv26, h⟩ := h
          refine va_zast hx hb hR.K hR.P hR.D hR.sS 53 2 (hR.atZ (hR.w.2.1 _ fin_111).2.1) rfl (k_ixN (k_ix (n := 1200) (x := t24_1) (a := t24_1.toInt) rfl hv26) (hR.w.2.1 _ fin_111).2.2) dX14_reach_24 (fun H locs hP hD hS => ?_)
          have hR : Rep g ad A s (wI U24 53 t24_1.toInt.toNat (vp_nar .boolean t24_0)) H locs := hR.aZ (hR.w.2.1 _ fin_111).2.1 hP hD hS
          obtain ⟨S27, eS27⟩ : ∃ z, z = wI U24 53 t24_1.toInt.toNat (vp_nar .boolean t24_0) := ⟨_, rfl⟩
          rw [← eS27] at hR
          replace h := h S27 eS27
          have hsh : shy S S27 := by rw [eS27]; exact hsh
          obtain ⟨a28, ea28⟩ : ∃ z, z = (v24_1 + Int32.ofInt 1) := ⟨_, rfl⟩
          replace h := h a28 ea28
          refine lv_iinc (v := a28) (lv' := [(1, .int a28), (0, .ref (ad 0))]) hx hb dX14_reach_25 hl (k := 1) rfl ea28.symm (by decide) rfl (fun ls hl => ?_)
          refine lv_goto (tgt := 2) hx hb dX14_reach_28 (by decide) ?_
          exact ih_2 S27 a28 _ _ ls h  hsh hR (lv_sub hl [1, 0] rfl)
        refine lv_if_ne (tgt := 23) hx hb dX14_reach_16 (by decide) (fun c29 => ?_) (fun c29 => ?_)
        · replace h := h.2 (k_ne rfl (by decide) c29)
          refine lv_iconst (v := 0) hx hb dX14_reach_23 (by decide) ?_
          exact J_24 U2 0 v2_1 v2_1 _ _ ls h (Or.inl rfl) hsh hR (lv_sub hl [0, 1] rfl)
        · replace h := h.1 (k_eq rfl (by decide) c29)
          refine lv_iconst (v := 1) hx hb dX14_reach_19 (by decide) ?_
          refine lv_goto (tgt := 24) hx hb dX14_reach_20 (by decide) ?_
          exact J_24 U2 1 v2_1 v2_1 _ _ ls h (Or.inr rfl) hsh hR (lv_sub hl [0, 1] rfl)
  obtain ⟨n9, h⟩ := h
  exact J_2 n9 S 0 _ _ ls h  hsh hR (lv_sub hl [1, 0] rfl)
def f_dominates (S : MS) (x1 : Int32) (x2 : Int32) : Int32 := (if (((qI S 54 (((((38 : Int32) * x2) + (x1 / (32 : Int32))).toInt).toNat)) >>> ((x1 - x1 / (32 : Int32) * (32 : Int32)) &&& 31)) &&& (1 : Int32)).toInt = 1 then (1 : Int32) else (0 : Int32))
def d_dominates (S : MS) (x1 : Int32) (x2 : Int32) : Prop := (((0 : Int) ≤ (((38 : Int32) * x2) + (x1 / (32 : Int32))).toInt ∧ (((38 : Int32) * x2) + (x1 / (32 : Int32))).toInt < 45600) ∧ True)
set_option maxHeartbeats 2000000 in
set_option maxRecDepth 100000 in
theorem r_dominates (l : Launch) (g : Gr) (ad : Nat → Nat) (sz : Nat) (S : MS) (x1 : Int32) (x2 : Int32) (hw : wfM S) (hd : d_dominates S x1 x2) : Met l yX14_dominates (wt2 yX14_dominates cX14_dominates 3 (some .boolean)) ({ frames := 0, cells := 0, slots := 0, locals := 0 }) (va_Pc [.ref (ad 0), .int x1, .int x2] (st_R g ad sz S)) (va_Qi (fun (r : Int32) (_ : Unit) => r = f_dominates S x1 x2 ∧ (r = 0 ∨ r = 1)) (fun (_ : Unit) (t : State) => qE g ad (va_A (Wd g ad S) sz) S t) (va_A (Wd g ad S) sz)) 0 0 (va_A (Wd g ad S) sz) := by
  refine Met.ofW (cc := cX14_dominates) (maxL := 3) (ret := (some .boolean)) (by decide) rfl ?_
  intro p e s m args below meth c s₁ B hml hv
  obtain ⟨rfl, hsz, hP, hK, hD0, hex, hE⟩ := hv
  have hx := B.exec
  have hb := B.bytes
  have hr := B.returns
  have hts0 := atoms_spec (ws := wt2 yX14_dominates cX14_dominates 3 (some .boolean)) B.pre
  have hts : ∀ w ∈ tb2, w.before _ s = true := fun w h => hts0 w (List.mem_cons_of_mem _ h)
  have hown : s.vm.findClass RX14 = some m.cls := findClass_of_methodNamed B.named
  subst hsz
  have hD := hD0.self (sz := s.heap.size)
  generalize hAe : va_A (Wd g ad S) s.heap.size = A at hD hE ⊢
  have hA : ∀ q : Nat, s.heap.size ≤ q → A q := fun q h => by rw [← hAe]; exact Or.inr h
  have hR : Rep g ad A s S s.heap [] := ⟨hK, hP, hD, va_S.rf, hw⟩
  clear hK hP hD hD0
  have hl := lv_entry ([.ref (ad 0), .int x1, .int x2]) (n := 3) (Nat.le_of_ble_eq_true rfl)
  rw [lg_entry_eq]
  generalize (lg_sl ([.ref (ad 0), .int x1, .int x2]) ++ List.replicate (3 - (lg_sl ([.ref (ad 0), .int x1, .int x2])).length) Slot.unset).toArray = ls at hl ⊢
  have hl : lv_has ls 3 [(0, .ref (ad 0)), (1, .int x1), (2, .int x2)] := hl
  obtain ⟨r0, hf⟩ : ∃ r0, f_dominates S x1 x2 = r0 := ⟨_, rfl⟩
  have hf0 := hf
  unfold f_dominates at hf
  unfold d_dominates at hd
  refine lv_aload_n hx hb dX14_dominates_0 rfl (lv_at hl 0 rfl) ?_
  refine va_get (D := rD g) (ci := 13) (v := .ref (ad 54)) (C := RX14) (T := TX14) (N := 143) hx hb hts in2X14 hown hR.K hR.P 0 (hR.at14 hR.w.1) rfl 112 (by decide) (hts _ kx_680) (fun _ h9 => h9) (congrArg (fun z => some (vf ad z)) (hR.w.2.1 _ fin_112).1) dX14_dominates_1 ?_
  refine lv_bipush (v := 38) hx hb dX14_dominates_4 (by decide) ?_
  refine lv_iload_n hx hb dX14_dominates_6 rfl (lv_at hl 2 rfl) ?_
  refine lv_imul hx hb dX14_dominates_7 ?_
  refine lv_topi (fun z1 ez1 => ?_)
  obtain rfl : z1 = ((38 : Int32) * x2) := ez1
  refine lv_iload_n hx hb dX14_dominates_8 rfl (lv_at hl 1 rfl) ?_
  refine lv_bipush (v := 32) hx hb dX14_dominates_9 (by decide) ?_
  refine lv_idiv hx hb dX14_dominates_11 (by decide) ?_
  refine lv_topi (fun z2 ez2 => ?_)
  obtain rfl : z2 = (x1 / (32 : Int32)) := ez2
  refine lv_iadd hx hb dX14_dominates_12 ?_
  refine lv_topi (fun z3 ez3 => ?_)
  obtain rfl : z3 = (((38 : Int32) * x2) + (x1 / (32 : Int32))) := ez3
  obtain ⟨hv4, hd⟩ := hd
  refine va_iald hx hb hR.K hR.P 54 1 (hR.atI (hR.w.2.1 _ fin_112).2.1) rfl (k_ixN (k_ix (n := 45600) (x := (((38 : Int32) * x2) + (x1 / (32 : Int32)))) (a := (((38 : Int32) * x2) + (x1 / (32 : Int32))).toInt) rfl hv4) (hR.w.2.1 _ fin_112).2.2) dX14_dominates_13 ?_
  refine lv_topi (fun z5 ez5 => ?_)
  obtain rfl : z5 = (qI S 54 (((((38 : Int32) * x2) + (x1 / (32 : Int32))).toInt).toNat)) := ez5
  refine lv_iload_n hx hb dX14_dominates_14 rfl (lv_at hl 1 rfl) ?_
  refine lv_bipush (v := 32) hx hb dX14_dominates_15 (by decide) ?_
  refine lv_irem hx hb dX14_dominates_17 (by decide) ?_
  refine lv_topi (fun z6 ez6 => ?_)
  obtain rfl : z6 = (x1 - x1 / (32 : Int32) * (32 : Int32)) := ez6
  refine lv_ishr hx hb dX14_dominates_18 ?_
  refine lv_topi (fun z7 ez7 => ?_)
  obtain rfl : z7 = ((qI S 54 (((((38 : Int32) * x2) + (x1 / (32 : Int32))).toInt).toNat)) >>> ((x1 - x1 / (32 : Int32) * (32 : Int32)) &&& 31)) := ez7
  refine lv_iconst (v := 1) hx hb dX14_dominates_19 (by decide) ?_
  refine lv_iand hx hb dX14_dominates_20 ?_
  refine lv_topi (fun z8 ez8 => ?_)
  obtain rfl : z8 = (((qI S 54 (((((38 : Int32) * x2) + (x1 / (32 : Int32))).toInt).toNat)) >>> ((x1 - x1 / (32 : Int32) * (32 : Int32)) &&& 31)) &&& (1 : Int32)) := ez8
  refine lv_iconst (v := 1) hx hb dX14_dominates_21 (by decide) ?_
  refine lv_icmp_ne (tgt := 29) hx hb dX14_dominates_22 (by decide) (fun c9 => ?_) (fun c9 => ?_)
  · rw [if_neg (k_ne rfl (by decide) c9)] at hf
    (try rw [if_neg (k_ne rfl (by decide) c9)] at hd)
    refine lv_iconst (v := 0) hx hb dX14_dominates_29 (by decide) ?_
    exact W.zret (v := 0) hx hb hr (nz (Or.inl rfl)) (fun t9 ht9 hW9 => ⟨⟨_, (), rfl, ⟨hf.trans hf0.symm, (Or.inl rfl)⟩, ⟨by rw [ht9]; exact hR.P, hR.D⟩⟩, hR.sS.F ht9⟩) hR.sS.2.2 dX14_dominates_30
  · rw [if_pos (k_eq rfl (by decide) c9)] at hf
    (try rw [if_pos (k_eq rfl (by decide) c9)] at hd)
    refine lv_iconst (v := 1) hx hb dX14_dominates_25 (by decide) ?_
    refine lv_goto (tgt := 30) hx hb dX14_dominates_26 (by decide) ?_
    exact W.zret (v := 1) hx hb hr (nz (Or.inr rfl)) (fun t9 ht9 hW9 => ⟨⟨_, (), rfl, ⟨hf.trans hf0.symm, (Or.inr rfl)⟩, ⟨by rw [ht9]; exact hR.P, hR.D⟩⟩, hR.sS.F ht9⟩) hR.sS.2.2 dX14_dominates_30
def w_narrowed_J89 (Q : Int32 → MS → Prop) (k5 : MS → Int32 → Int32 → Int32 → Int32 → Prop) (U89 : MS) (t89_0 : Int32) (v89_1 : Int32) (v89_2 : Int32) (v89_4 : Int32) (v89_6 : Int32) : Prop := (((0 : Int) ≤ (((38 : Int32) * v89_2) + v89_4).toInt ∧ (((38 : Int32) * v89_2) + v89_4).toInt < 45600) ∧ (∀ S17, S17 = wI U89 54 (((((38 : Int32) * v89_2) + v89_4).toInt).toNat) v89_6 → (∀ a18 : Int32, a18 = (v89_4 + Int32.ofInt 1) → k5 S17 v89_1 v89_2 t89_0 a18)))
def w_narrowed_J84 (Q : Int32 → MS → Prop) (k5 : MS → Int32 → Int32 → Int32 → Int32 → Prop) (U84 : MS) (v84_1 : Int32) (v84_2 : Int32) (v84_4 : Int32) (v84_6 : Int32) : Prop := w_narrowed_J89 Q k5 U84 1 v84_1 v84_2 v84_4 v84_6
def w_narrowed_J31 (Q : Int32 → MS → Prop) (k5 : MS → Int32 → Int32 → Int32 → Int32 → Prop) (U31 : MS) (t31_0 : Int32) (v31_1 : Int32) (v31_2 : Int32) (v31_3 : Int32) (v31_4 : Int32) : Prop := (((0 : Int) ≤ (((38 : Int32) * v31_2) + v31_4).toInt ∧ (((38 : Int32) * v31_2) + v31_4).toInt < 45600) ∧ (((0 : Int) ≤ (((38 : Int32) * v31_1) + v31_4).toInt ∧ (((38 : Int32) * v31_1) + v31_4).toInt < 45600) ∧ (∀ a13 : Int32, a13 = ((qI U31 54 (((((38 : Int32) * v31_2) + v31_4).toInt).toNat)) &&& ((qI U31 54 (((((38 : Int32) * v31_1) + v31_4).toInt).toNat)) ||| t31_0)) → ((v31_3.toInt = 0 → (((0 : Int) ≤ (((38 : Int32) * v31_2) + v31_4).toInt ∧ (((38 : Int32) * v31_2) + v31_4).toInt < 45600) ∧ ((a13.toInt = (qI U31 54 (((((38 : Int32) * v31_2) + v31_4).toInt).toNat)).toInt → w_narrowed_J89 Q k5 U31 0 v31_1 v31_2 v31_4 a13) ∧ (¬ a13.toInt = (qI U31 54 (((((38 : Int32) * v31_2) + v31_4).toInt).toNat)).toInt → w_narrowed_J84 Q k5 U31 v31_1 v31_2 v31_4 a13)))) ∧ (¬ v31_3.toInt = 0 → w_narrowed_J84 Q k5 U31 v31_1 v31_2 v31_4 a13)))))
def w_narrowed_L5 (Q : Int32 → MS → Prop) : Nat → MS → Int32 → Int32 → Int32 → Int32 → Prop
  | 0, _, _, _, _, _ => False
  | n5 + 1, U5, v5_1, v5_2, v5_3, v5_4 => ((38 ≤ v5_4.toInt → Q v5_3 U5) ∧ (¬ 38 ≤ v5_4.toInt → (((v5_2 / (32 : Int32)).toInt = v5_4.toInt → w_narrowed_J31 Q (w_narrowed_L5 Q n5) U5 ((1 : Int32) <<< ((v5_2 - v5_2 / (32 : Int32) * (32 : Int32)) &&& 31)) v5_1 v5_2 v5_3 v5_4) ∧ (¬ (v5_2 / (32 : Int32)).toInt = v5_4.toInt → w_narrowed_J31 Q (w_narrowed_L5 Q n5) U5 0 v5_1 v5_2 v5_3 v5_4))))
def w_narrowed (S : MS) (x1 : Int32) (x2 : Int32) (Q : Int32 → MS → Prop) : Prop := (∃ n, w_narrowed_L5 Q n S x1 x2 0 0)
set_option maxHeartbeats 2000000 in
set_option maxRecDepth 100000 in
theorem r_narrowed (l : Launch) (g : Gr) (ad : Nat → Nat) (sz : Nat) (S : MS) (x1 : Int32) (x2 : Int32) (hw : wfM S) (Q : Int32 → MS → Prop) (h : w_narrowed S x1 x2 Q) : Met l yX14_narrowed (wt2 yX14_narrowed cX14_narrowed 7 (some .boolean)) ({ frames := 0, cells := 0, slots := 0, locals := 0 }) (va_Pc [.ref (ad 0), .int x1, .int x2] (st_R g ad sz S)) (va_Qi (fun (r : Int32) (u : MS) => Q r u ∧ wfM u ∧ shy S u ∧ (r = 0 ∨ r = 1)) (fun (u : MS) (t : State) => qE g ad (va_A (Wd g ad S) sz) u t) (va_A (Wd g ad S) sz)) 0 0 (va_A (Wd g ad S) sz) := by
  refine Met.ofW (cc := cX14_narrowed) (maxL := 7) (ret := (some .boolean)) (by decide) rfl ?_
  intro p e s m args below meth c s₁ B hml hv
  obtain ⟨rfl, hsz, hP, hK, hD0, hex, hE⟩ := hv
  have hx := B.exec
  have hb := B.bytes
  have hr := B.returns
  have hts0 := atoms_spec (ws := wt2 yX14_narrowed cX14_narrowed 7 (some .boolean)) B.pre
  have hts : ∀ w ∈ tb2, w.before _ s = true := fun w h => hts0 w (List.mem_cons_of_mem _ h)
  have hown : s.vm.findClass RX14 = some m.cls := findClass_of_methodNamed B.named
  subst hsz
  have hD := hD0.self (sz := s.heap.size)
  generalize hAe : va_A (Wd g ad S) s.heap.size = A at hD hE ⊢
  have hA : ∀ q : Nat, s.heap.size ≤ q → A q := fun q h => by rw [← hAe]; exact Or.inr h
  have hR : Rep g ad A s S s.heap [] := ⟨hK, hP, hD, va_S.rf, hw⟩
  clear hK hP hD hD0
  have hl := lv_entry ([.ref (ad 0), .int x1, .int x2]) (n := 7) (Nat.le_of_ble_eq_true rfl)
  rw [lg_entry_eq]
  generalize (lg_sl ([.ref (ad 0), .int x1, .int x2]) ++ List.replicate (7 - (lg_sl ([.ref (ad 0), .int x1, .int x2])).length) Slot.unset).toArray = ls at hl ⊢
  have hl : lv_has ls 7 [(0, .ref (ad 0)), (1, .int x1), (2, .int x2)] := hl
  have hsh : shy S S := shy.rf
  unfold w_narrowed at h
  refine lv_iconst (v := 0) hx hb dX14_narrowed_0 (by decide) ?_
  refine lv_istore_n (lv' := [(3, .int 0), (0, .ref (ad 0)), (1, .int x1), (2, .int x2)]) hx hb dX14_narrowed_1 rfl hl (by decide) rfl (fun ls hl => ?_)
  refine lv_iconst (v := 0) hx hb dX14_narrowed_2 (by decide) ?_
  refine lv_istore (lv' := [(4, .int 0), (3, .int 0), (0, .ref (ad 0)), (1, .int x1), (2, .int x2)]) hx hb dX14_narrowed_3 hl (by decide) rfl (fun ls hl => ?_)
  have J_5 : ∀ (n5 : Nat) (U5 : MS) (v5_1 : Int32) (v5_2 : Int32) (v5_3 : Int32) (v5_4 : Int32) (H : Heap) (locs : List Loc) (ls : Array Slot), w_narrowed_L5 Q n5 U5 v5_1 v5_2 v5_3 v5_4 → (v5_3 = 0 ∨ v5_3 = 1) → shy S U5 → Rep g ad A s U5 H locs → lv_has ls 7 [(0, .ref (ad 0)), (1, .int v5_1), (2, .int v5_2), (3, .int v5_3), (4, .int v5_4)] → W p l e (headSpec (wt2 yX14_narrowed cX14_narrowed 7 (some .boolean)) ({ frames := 0, cells := 0, slots := 0, locals := 0 })).room s m ([.ref (ad 0), .int x1, .int x2] : List Value).toArray below meth c H locs 0 0 (MQ below (va_Qi (fun (r : Int32) (u : MS) => Q r u ∧ wfM u ∧ shy S u ∧ (r = 0 ∨ r = 1)) (fun (u : MS) (t : State) => qE g ad A u t) A) ([.ref (ad 0), .int x1, .int x2] : List Value).toArray s 0 0 A) (F0 m 5 ls []) := by
    intro n5
    induction n5 with
    | zero => intro U5 v5_1 v5_2 v5_3 v5_4 H locs ls h hz_v5_3 hsh hR hl; unfold w_narrowed_L5 at h; exact h.elim
    | succ n5 ih_5 =>
      intro U5 v5_1 v5_2 v5_3 v5_4 H locs ls h hz_v5_3 hsh hR hl
      unfold w_narrowed_L5 at h
      refine lv_iload hx hb dX14_narrowed_5 (lv_at hl 4 rfl) ?_
      refine lv_bipush (v := 38) hx hb dX14_narrowed_7 (by decide) ?_
      refine lv_icmp_ge (tgt := 110) hx hb dX14_narrowed_9 (by decide) (fun c1 => ?_) (fun c1 => ?_)
      · replace h := h.1 (k_le (by decide) rfl c1)
        refine lv_iload_n hx hb dX14_narrowed_110 rfl (lv_at hl 3 rfl) ?_
        exact W.zret (v := v5_3) hx hb hr (nz hz_v5_3) (fun t9 ht9 hW9 => ⟨⟨_, U5, rfl, ⟨h, hR.w, hsh, hz_v5_3⟩, ⟨by rw [ht9]; exact hR.P, hR.D⟩⟩, hR.sS.F ht9⟩) hR.sS.2.2 dX14_narrowed_111
      · replace h := h.2 (k_nle (by decide) rfl c1)
        refine lv_iload_n hx hb dX14_narrowed_12 rfl (lv_at hl 2 rfl) ?_
        refine lv_bipush (v := 32) hx hb dX14_narrowed_13 (by decide) ?_
        refine lv_idiv hx hb dX14_narrowed_15 (by decide) ?_
        refine lv_topi (fun z2 ez2 => ?_)
        obtain rfl : z2 = (v5_2 / (32 : Int32)) := ez2
        refine lv_iload hx hb dX14_narrowed_16 (lv_at hl 4 rfl) ?_
        have J_31 : ∀ (U31 : MS) (t31_0 : Int32) (v31_1 : Int32) (v31_2 : Int32) (v31_3 : Int32) (v31_4 : Int32) (H : Heap) (locs : List Loc) (ls : Array Slot), w_narrowed_J31 Q (w_narrowed_L5 Q n5) U31 t31_0 v31_1 v31_2 v31_3 v31_4 → (v31_3 = 0 ∨ v31_3 = 1) → shy S U31 → Rep g ad A s U31 H locs → lv_has ls 7 [(0, .ref (ad 0)), (1, .int v31_1), (2, .int v31_2), (3, .int v31_3), (4, .int v31_4)] → W p l e (headSpec (wt2 yX14_narrowed cX14_narrowed 7 (some .boolean)) ({ frames := 0, cells := 0, slots := 0, locals := 0 })).room s m ([.ref (ad 0), .int x1, .int x2] : List Value).toArray below meth c H locs 0 0 (MQ below (va_Qi (fun (r : Int32) (u : MS) => Q r u ∧ wfM u ∧ shy S u ∧ (r = 0 ∨ r = 1)) (fun (u : MS) (t : State) => qE g ad A u t) A) ([.ref (ad 0), .int x1, .int x2] : List Value).toArray s 0 0 A) (F0 m 31 ls [.int t31_0]) := by
          intro U31 t31_0 v31_1 v31_2 v31_3 v31_4 H locs ls h hz_v31_3 hsh hR hl
          unfold w_narrowed_J31 at h
          refine lv_istore (lv' := [(5, .int t31_0), (0, .ref (ad 0)), (1, .int v31_1), (2, .int v31_2), (3, .int v31_3), (4, .int v31_4)]) hx hb dX14_narrowed_31 hl (by decide) rfl (fun ls hl => ?_)
          refine lv_aload_n hx hb dX14_narrowed_33 rfl (lv_at hl 1 rfl) ?_
          refine va_get (D := rD g) (ci := 13) (v := .ref (ad 54)) (C := RX14) (T := TX14) (N := 143) hx hb hts in2X14 hown hR.K hR.P 0 (hR.at14 hR.w.1) rfl 112 (by decide) (hts _ kx_680) (fun _ h9 => h9) (congrArg (fun z => some (vf ad z)) (hR.w.2.1 _ fin_112).1) dX14_narrowed_34 ?_
          refine lv_bipush (v := 38) hx hb dX14_narrowed_37 (by decide) ?_
          refine lv_iload_n hx hb dX14_narrowed_39 rfl (lv_at hl 3 rfl) ?_
          refine lv_imul hx hb dX14_narrowed_40 ?_
          refine lv_topi (fun z3 ez3 => ?_)
          obtain rfl : z3 = ((38 : Int32) * v31_2) := ez3
          refine lv_iload hx hb dX14_narrowed_41 (lv_at hl 5 rfl) ?_
          refine lv_iadd hx hb dX14_narrowed_43 ?_
          refine lv_topi (fun z4 ez4 => ?_)
          obtain rfl : z4 = (((38 : Int32) * v31_2) + v31_4) := ez4
          obtain ⟨hv5, h⟩ := h
          refine va_iald hx hb hR.K hR.P 54 1 (hR.atI (hR.w.2.1 _ fin_112).2.1) rfl (k_ixN (k_ix (n := 45600) (x := (((38 : Int32) * v31_2) + v31_4)) (a := (((38 : Int32) * v31_2) + v31_4).toInt) rfl hv5) (hR.w.2.1 _ fin_112).2.2) dX14_narrowed_44 ?_
          refine lv_topi (fun z6 ez6 => ?_)
          obtain rfl : z6 = (qI U31 54 (((((38 : Int32) * v31_2) + v31_4).toInt).toNat)) := ez6
          refine lv_aload_n hx hb dX14_narrowed_45 rfl (lv_at hl 1 rfl) ?_
          refine va_get (D := rD g) (ci := 13) (v := .ref (ad 54)) (C := RX14) (T := TX14) (N := 143) hx hb hts in2X14 hown hR.K hR.P 0 (hR.at14 hR.w.1) rfl 112 (by decide) (hts _ kx_680) (fun _ h9 => h9) (congrArg (fun z => some (vf ad z)) (hR.w.2.1 _ fin_112).1) dX14_narrowed_46 ?_
          refine lv_bipush (v := 38) hx hb dX14_narrowed_49 (by decide) ?_
          refine lv_iload_n hx hb dX14_narrowed_51 rfl (lv_at hl 2 rfl) ?_
          refine lv_imul hx hb dX14_narrowed_52 ?_
          refine lv_topi (fun z7 ez7 => ?_)
          obtain rfl : z7 = ((38 : Int32) * v31_1) := ez7
          refine lv_iload hx hb dX14_narrowed_53 (lv_at hl 5 rfl) ?_
          refine lv_iadd hx hb dX14_narrowed_55 ?_
          refine lv_topi (fun z8 ez8 => ?_)
          obtain rfl : z8 = (((38 : Int32) * v31_1) + v31_4) := ez8
          obtain ⟨hv9, h⟩ := h
          refine va_iald hx hb hR.K hR.P 54 1 (hR.atI (hR.w.2.1 _ fin_112).2.1) rfl (k_ixN (k_ix (n := 45600) (x := (((38 : Int32) * v31_1) + v31_4)) (a := (((38 : Int32) * v31_1) + v31_4).toInt) rfl hv9) (hR.w.2.1 _ fin_112).2.2) dX14_narrowed_56 ?_
          refine lv_topi (fun z10 ez10 => ?_)
          obtain rfl : z10 = (qI U31 54 (((((38 : Int32) * v31_1) + v31_4).toInt).toNat)) := ez10
          refine lv_iload hx hb dX14_narrowed_57 (lv_at hl 0 rfl) ?_
          refine lv_ior hx hb dX14_narrowed_59 ?_
          refine lv_topi (fun z11 ez11 => ?_)
          obtain rfl : z11 = ((qI U31 54 (((((38 : Int32) * v31_1) + v31_4).toInt).toNat)) ||| t31_0) := ez11
          refine lv_iand hx hb dX14_narrowed_60 ?_
          refine lv_topi (fun z12 ez12 => ?_)
          obtain rfl : z12 = ((qI U31 54 (((((38 : Int32) * v31_2) + v31_4).toInt).toNat)) &&& ((qI U31 54 (((((38 : Int32) * v31_1) + v31_4).toInt).toNat)) ||| t31_0)) := ez12
          obtain ⟨a13, ea13⟩ : ∃ z, z = ((qI U31 54 (((((38 : Int32) * v31_2) + v31_4).toInt).toNat)) &&& ((qI U31 54 (((((38 : Int32) * v31_1) + v31_4).toInt).toNat)) ||| t31_0)) := ⟨_, rfl⟩
          rw [← ea13]
          replace h := h a13 ea13
          refine lv_istore (lv' := [(6, .int a13), (5, .int t31_0), (0, .ref (ad 0)), (1, .int v31_1), (2, .int v31_2), (3, .int v31_3), (4, .int v31_4)]) hx hb dX14_narrowed_61 hl (by decide) rfl (fun ls hl => ?_)
          refine lv_iload_n hx hb dX14_narrowed_63 rfl (lv_at hl 5 rfl) ?_
          have J_89 : ∀ (U89 : MS) (t89_0 : Int32) (v89_1 : Int32) (v89_2 : Int32) (v89_4 : Int32) (v89_6 : Int32) (H : Heap) (locs : List Loc) (ls : Array Slot), w_narrowed_J89 Q (w_narrowed_L5 Q n5) U89 t89_0 v89_1 v89_2 v89_4 v89_6 → (t89_0 = 0 ∨ t89_0 = 1) → shy S U89 → Rep g ad A s U89 H locs → lv_has ls 7 [(0, .ref (ad 0)), (1, .int v89_1), (2, .int v89_2), (4, .int v89_4), (6, .int v89_6)] → W p l e (headSpec (wt2 yX14_narrowed cX14_narrowed 7 (some .boolean)) ({ frames := 0, cells := 0, slots := 0, locals := 0 })).room s m ([.ref (ad 0), .int x1, .int x2] : List Value).toArray below meth c H locs 0 0 (MQ below (va_Qi (fun (r : Int32) (u : MS) => Q r u ∧ wfM u ∧ shy S u ∧ (r = 0 ∨ r = 1)) (fun (u : MS) (t : State) => qE g ad A u t) A) ([.ref (ad 0), .int x1, .int x2] : List Value).toArray s 0 0 A) (F0 m 89 ls [.int t89_0]) := by
            intro U89 t89_0 v89_1 v89_2 v89_4 v89_6 H locs ls h hz_t89_0 hsh hR hl
            unfold w_narrowed_J89 at h
            refine lv_istore_n (lv' := [(3, .int t89_0), (0, .ref (ad 0)), (1, .int v89_1), (2, .int v89_2), (4, .int v89_4), (6, .int v89_6)]) hx hb dX14_narrowed_89 rfl hl (by decide) rfl (fun ls hl => ?_)
            refine lv_aload_n hx hb dX14_narrowed_90 rfl (lv_at hl 1 rfl) ?_
            refine va_get (D := rD g) (ci := 13) (v := .ref (ad 54)) (C := RX14) (T := TX14) (N := 143) hx hb hts in2X14 hown hR.K hR.P 0 (hR.at14 hR.w.1) rfl 112 (by decide) (hts _ kx_680) (fun _ h9 => h9) (congrArg (fun z => some (vf ad z)) (hR.w.2.1 _ fin_112).1) dX14_narrowed_91 ?_
            refine lv_bipush (v := 38) hx hb dX14_narrowed_94 (by decide) ?_
            refine lv_iload_n hx hb dX14_narrowed_96 rfl (lv_at hl 3 rfl) ?_
            refine lv_imul hx hb dX14_narrowed_97 ?_
            refine lv_topi (fun z14 ez14 => ?_)
            obtain rfl : z14 = ((38 : Int32) * v89_2) := ez14
            refine lv_iload hx hb dX14_narrowed_98 (lv_at hl 4 rfl) ?_
            refine lv_iadd hx hb dX14_narrowed_100 ?_
            refine lv_topi (fun z15 ez15 => ?_)
            obtain rfl : z15 = (((38 : Int32) * v89_2) + v89_4) := ez15
            refine lv_iload hx hb dX14_narrowed_101 (lv_at hl 5 rfl) ?_
            obtain ⟨hv16, h⟩ := h
            refine va_iast hx hb hR.K hR.P hR.D hR.sS 54 1 (hR.atI (hR.w.2.1 _ fin_112).2.1) rfl (k_ixN (k_ix (n := 45600) (x := (((38 : Int32) * v89_2) + v89_4)) (a := (((38 : Int32) * v89_2) + v89_4).toInt) rfl hv16) (hR.w.2.1 _ fin_112).2.2) dX14_narrowed_103 (fun H locs hP hD hS => ?_)
            have hR : Rep g ad A s (wI U89 54 (((((38 : Int32) * v89_2) + v89_4).toInt).toNat) v89_6) H locs := hR.aI (hR.w.2.1 _ fin_112).2.1 hP hD hS
            obtain ⟨S17, eS17⟩ : ∃ z, z = wI U89 54 (((((38 : Int32) * v89_2) + v89_4).toInt).toNat) v89_6 := ⟨_, rfl⟩
            rw [← eS17] at hR
            replace h := h S17 eS17
            have hsh : shy S S17 := by rw [eS17]; exact hsh
            obtain ⟨a18, ea18⟩ : ∃ z, z = (v89_4 + Int32.ofInt 1) := ⟨_, rfl⟩
            replace h := h a18 ea18
            refine lv_iinc (v := a18) (lv' := [(4, .int a18), (3, .int t89_0), (0, .ref (ad 0)), (1, .int v89_1), (2, .int v89_2), (6, .int v89_6)]) hx hb dX14_narrowed_104 hl (k := 4) rfl ea18.symm (by decide) rfl (fun ls hl => ?_)
            refine lv_goto (tgt := 5) hx hb dX14_narrowed_107 (by decide) ?_
            exact ih_5 S17 v89_1 v89_2 t89_0 a18 _ _ ls h hz_t89_0 hsh hR (lv_sub hl [2, 3, 4, 1, 0] rfl)
          have J_84 : ∀ (U84 : MS) (v84_1 : Int32) (v84_2 : Int32) (v84_4 : Int32) (v84_6 : Int32) (H : Heap) (locs : List Loc) (ls : Array Slot), w_narrowed_J84 Q (w_narrowed_L5 Q n5) U84 v84_1 v84_2 v84_4 v84_6 → shy S U84 → Rep g ad A s U84 H locs → lv_has ls 7 [(0, .ref (ad 0)), (1, .int v84_1), (2, .int v84_2), (4, .int v84_4), (6, .int v84_6)] → W p l e (headSpec (wt2 yX14_narrowed cX14_narrowed 7 (some .boolean)) ({ frames := 0, cells := 0, slots := 0, locals := 0 })).room s m ([.ref (ad 0), .int x1, .int x2] : List Value).toArray below meth c H locs 0 0 (MQ below (va_Qi (fun (r : Int32) (u : MS) => Q r u ∧ wfM u ∧ shy S u ∧ (r = 0 ∨ r = 1)) (fun (u : MS) (t : State) => qE g ad A u t) A) ([.ref (ad 0), .int x1, .int x2] : List Value).toArray s 0 0 A) (F0 m 84 ls []) := by
            intro U84 v84_1 v84_2 v84_4 v84_6 H locs ls h hsh hR hl
            unfold w_narrowed_J84 at h
            refine lv_iconst (v := 1) hx hb dX14_narrowed_84 (by decide) ?_
            refine lv_goto (tgt := 89) hx hb dX14_narrowed_85 (by decide) ?_
            exact J_89 U84 1 v84_1 v84_2 v84_4 v84_6 _ _ ls h (Or.inr rfl) hsh hR (lv_sub hl [0, 1, 2, 3, 4] rfl)
          refine lv_if_ne (tgt := 84) hx hb dX14_narrowed_64 (by decide) (fun c19 => ?_) (fun c19 => ?_)
          · replace h := h.2 (k_ne rfl (by decide) c19)
            exact J_84 U31 v31_1 v31_2 v31_4 a13 _ _ ls h  hsh hR (lv_sub hl [2, 3, 4, 6, 0] rfl)
          · replace h := h.1 (k_eq rfl (by decide) c19)
            refine lv_iload hx hb dX14_narrowed_67 (lv_at hl 0 rfl) ?_
            refine lv_aload_n hx hb dX14_narrowed_69 rfl (lv_at hl 2 rfl) ?_
            refine va_get (D := rD g) (ci := 13) (v := .ref (ad 54)) (C := RX14) (T := TX14) (N := 143) hx hb hts in2X14 hown hR.K hR.P 0 (hR.at14 hR.w.1) rfl 112 (by decide) (hts _ kx_680) (fun _ h9 => h9) (congrArg (fun z => some (vf ad z)) (hR.w.2.1 _ fin_112).1) dX14_narrowed_70 ?_
            refine lv_bipush (v := 38) hx hb dX14_narrowed_73 (by decide) ?_
            refine lv_iload_n hx hb dX14_narrowed_75 rfl (lv_at hl 4 rfl) ?_
            refine lv_imul hx hb dX14_narrowed_76 ?_
            refine lv_topi (fun z20 ez20 => ?_)
            obtain rfl : z20 = ((38 : Int32) * v31_2) := ez20
            refine lv_iload hx hb dX14_narrowed_77 (lv_at hl 6 rfl) ?_
            refine lv_iadd hx hb dX14_narrowed_79 ?_
            refine lv_topi (fun z21 ez21 => ?_)
            obtain rfl : z21 = (((38 : Int32) * v31_2) + v31_4) := ez21
            obtain ⟨hv22, h⟩ := h
            refine va_iald hx hb hR.K hR.P 54 1 (hR.atI (hR.w.2.1 _ fin_112).2.1) rfl (k_ixN (k_ix (n := 45600) (x := (((38 : Int32) * v31_2) + v31_4)) (a := (((38 : Int32) * v31_2) + v31_4).toInt) rfl hv22) (hR.w.2.1 _ fin_112).2.2) dX14_narrowed_80 ?_
            refine lv_topi (fun z23 ez23 => ?_)
            obtain rfl : z23 = (qI U31 54 (((((38 : Int32) * v31_2) + v31_4).toInt).toNat)) := ez23
            refine lv_icmp_eq (tgt := 88) hx hb dX14_narrowed_81 (by decide) (fun c24 => ?_) (fun c24 => ?_)
            · replace h := h.1 (k_eq rfl rfl c24)
              refine lv_iconst (v := 0) hx hb dX14_narrowed_88 (by decide) ?_
              exact J_89 U31 0 v31_1 v31_2 v31_4 a13 _ _ ls h (Or.inl rfl) hsh hR (lv_sub hl [2, 3, 4, 6, 0] rfl)
            · replace h := h.2 (k_ne rfl rfl c24)
              exact J_84 U31 v31_1 v31_2 v31_4 a13 _ _ ls h  hsh hR (lv_sub hl [2, 3, 4, 6, 0] rfl)
        refine lv_icmp_ne (tgt := 30) hx hb dX14_narrowed_18 (by decide) (fun c25 => ?_) (fun c25 => ?_)
        · replace h := h.2 (k_ne rfl rfl c25)
          refine lv_iconst (v := 0) hx hb dX14_narrowed_30 (by decide) ?_
          exact J_31 U5 0 v5_1 v5_2 v5_3 v5_4 _ _ ls h hz_v5_3 hsh hR (lv_sub hl [0, 1, 2, 3, 4] rfl)
        · replace h := h.1 (k_eq rfl rfl c25)
          refine lv_iconst (v := 1) hx hb dX14_narrowed_21 (by decide) ?_
          refine lv_iload_n hx hb dX14_narrowed_22 rfl (lv_at hl 2 rfl) ?_
          refine lv_bipush (v := 32) hx hb dX14_narrowed_23 (by decide) ?_
          refine lv_irem hx hb dX14_narrowed_25 (by decide) ?_
          refine lv_topi (fun z26 ez26 => ?_)
          obtain rfl : z26 = (v5_2 - v5_2 / (32 : Int32) * (32 : Int32)) := ez26
          refine lv_ishl hx hb dX14_narrowed_26 ?_
          refine lv_topi (fun z27 ez27 => ?_)
          obtain rfl : z27 = ((1 : Int32) <<< ((v5_2 - v5_2 / (32 : Int32) * (32 : Int32)) &&& 31)) := ez27
          refine lv_goto (tgt := 31) hx hb dX14_narrowed_27 (by decide) ?_
          exact J_31 U5 ((1 : Int32) <<< ((v5_2 - v5_2 / (32 : Int32) * (32 : Int32)) &&& 31)) v5_1 v5_2 v5_3 v5_4 _ _ ls h hz_v5_3 hsh hR (lv_sub hl [0, 1, 2, 3, 4] rfl)
  obtain ⟨n9, h⟩ := h
  exact J_5 n9 S x1 x2 0 0 _ _ ls h (Or.inl rfl) hsh hR (lv_sub hl [2, 3, 4, 1, 0] rfl)
def w_nearestOf_J61 (Q : Int32 → MS → Prop) (k7 : MS → Int32 → Int32 → Int32 → Int32 → Prop) (U61 : MS) (v61_1 : Int32) (v61_2 : Int32) (v61_3 : Int32) (v61_4 : Int32) : Prop := (∀ a2 : Int32, a2 = (v61_4 + Int32.ofInt 1) → k7 U61 v61_1 v61_2 v61_3 a2)
def w_nearestOf_J49 (Q : Int32 → MS → Prop) (k7 : MS → Int32 → Int32 → Int32 → Int32 → Prop) (U49 : MS) (v49_1 : Int32) (v49_2 : Int32) (v49_3 : Int32) (v49_4 : Int32) : Prop := (((0 : Int) ≤ v49_4.toInt ∧ v49_4.toInt < 1200) ∧ (∀ a13 : Int32, a13 = (if v49_3 < (qI U49 59 v49_4.toInt.toNat) then (qI U49 59 v49_4.toInt.toNat) else v49_3) → w_nearestOf_J61 Q k7 U49 v49_1 v49_2 a13 v49_4))
def w_nearestOf_L7 (Q : Int32 → MS → Prop) : Nat → MS → Int32 → Int32 → Int32 → Int32 → Prop
  | 0, _, _, _, _, _ => False
  | n7 + 1, U7, v7_1, v7_2, v7_3, v7_4 => (((qI U7 0 105).toInt ≤ v7_4.toInt → Q v7_2 U7) ∧ (¬ (qI U7 0 105).toInt ≤ v7_4.toInt → ((v7_4.toInt = v7_1.toInt → w_nearestOf_J61 Q (w_nearestOf_L7 Q n7) U7 v7_1 v7_2 v7_3 v7_4) ∧ (¬ v7_4.toInt = v7_1.toInt → (d_dominates U7 v7_4 v7_1 ∧ (((f_dominates U7 v7_4 v7_1).toInt = 0 → w_nearestOf_J61 Q (w_nearestOf_L7 Q n7) U7 v7_1 v7_2 v7_3 v7_4) ∧ (¬ (f_dominates U7 v7_4 v7_1).toInt = 0 → (((0 : Int) ≤ v7_4.toInt ∧ v7_4.toInt < 1200) ∧ (((qI U7 59 v7_4.toInt.toNat).toInt ≤ v7_3.toInt → w_nearestOf_J49 Q (w_nearestOf_L7 Q n7) U7 v7_1 v7_2 v7_3 v7_4) ∧ (¬ (qI U7 59 v7_4.toInt.toNat).toInt ≤ v7_3.toInt → w_nearestOf_J49 Q (w_nearestOf_L7 Q n7) U7 v7_1 v7_4 v7_3 v7_4))))))))))
def w_nearestOf (S : MS) (x1 : Int32) (Q : Int32 → MS → Prop) : Prop := (∃ n, w_nearestOf_L7 Q n S x1 (-1) 0 0)
set_option maxHeartbeats 2000000 in
set_option maxRecDepth 100000 in
theorem r_nearestOf (l : Launch) (g : Gr) (ad : Nat → Nat) (sz : Nat) (S : MS) (x1 : Int32) (hw : wfM S) (Q : Int32 → MS → Prop) (h : w_nearestOf S x1 Q) : Met l yX14_nearestOf (wt2 yX14_nearestOf cX14_nearestOf 5 (some .int)) ({ frames := 1, cells := 0, slots := 0, locals := 22 }) (va_Pc [.ref (ad 0), .int x1] (st_R g ad sz S)) (va_Qi (fun (r : Int32) (u : MS) => Q r u ∧ wfM u ∧ shy S u) (fun (u : MS) (t : State) => qE g ad (va_A (Wd g ad S) sz) u t) (va_A (Wd g ad S) sz)) 0 0 (va_A (Wd g ad S) sz) := by
  refine Met.ofW (cc := cX14_nearestOf) (maxL := 5) (ret := (some .int)) (by decide) rfl ?_
  intro p e s m args below meth c s₁ B hml hv
  obtain ⟨rfl, hsz, hP, hK, hD0, hex, hE⟩ := hv
  have hx := B.exec
  have hb := B.bytes
  have hr := B.returns
  have hts0 := atoms_spec (ws := wt2 yX14_nearestOf cX14_nearestOf 5 (some .int)) B.pre
  have hts : ∀ w ∈ tb2, w.before _ s = true := fun w h => hts0 w (List.mem_cons_of_mem _ h)
  have hown : s.vm.findClass RX14 = some m.cls := findClass_of_methodNamed B.named
  subst hsz
  have hD := hD0.self (sz := s.heap.size)
  generalize hAe : va_A (Wd g ad S) s.heap.size = A at hD hE ⊢
  have hA : ∀ q : Nat, s.heap.size ≤ q → A q := fun q h => by rw [← hAe]; exact Or.inr h
  have hR : Rep g ad A s S s.heap [] := ⟨hK, hP, hD, va_S.rf, hw⟩
  clear hK hP hD hD0
  have hl := lv_entry ([.ref (ad 0), .int x1]) (n := 5) (Nat.le_of_ble_eq_true rfl)
  rw [lg_entry_eq]
  generalize (lg_sl ([.ref (ad 0), .int x1]) ++ List.replicate (5 - (lg_sl ([.ref (ad 0), .int x1])).length) Slot.unset).toArray = ls at hl ⊢
  have hl : lv_has ls 5 [(0, .ref (ad 0)), (1, .int x1)] := hl
  have hsh : shy S S := shy.rf
  unfold w_nearestOf at h
  refine lv_iconst (v := (-1)) hx hb dX14_nearestOf_0 (by decide) ?_
  refine lv_istore_n (lv' := [(2, .int (-1)), (0, .ref (ad 0)), (1, .int x1)]) hx hb dX14_nearestOf_1 rfl hl (by decide) rfl (fun ls hl => ?_)
  refine lv_iconst (v := 0) hx hb dX14_nearestOf_2 (by decide) ?_
  refine lv_istore_n (lv' := [(3, .int 0), (2, .int (-1)), (0, .ref (ad 0)), (1, .int x1)]) hx hb dX14_nearestOf_3 rfl hl (by decide) rfl (fun ls hl => ?_)
  refine lv_iconst (v := 0) hx hb dX14_nearestOf_4 (by decide) ?_
  refine lv_istore (lv' := [(4, .int 0), (3, .int 0), (2, .int (-1)), (0, .ref (ad 0)), (1, .int x1)]) hx hb dX14_nearestOf_5 hl (by decide) rfl (fun ls hl => ?_)
  have J_7 : ∀ (n7 : Nat) (U7 : MS) (v7_1 : Int32) (v7_2 : Int32) (v7_3 : Int32) (v7_4 : Int32) (H : Heap) (locs : List Loc) (ls : Array Slot), w_nearestOf_L7 Q n7 U7 v7_1 v7_2 v7_3 v7_4 → shy S U7 → Rep g ad A s U7 H locs → lv_has ls 5 [(0, .ref (ad 0)), (1, .int v7_1), (2, .int v7_2), (3, .int v7_3), (4, .int v7_4)] → W p l e (headSpec (wt2 yX14_nearestOf cX14_nearestOf 5 (some .int)) ({ frames := 1, cells := 0, slots := 0, locals := 22 })).room s m ([.ref (ad 0), .int x1] : List Value).toArray below meth c H locs 0 0 (MQ below (va_Qi (fun (r : Int32) (u : MS) => Q r u ∧ wfM u ∧ shy S u) (fun (u : MS) (t : State) => qE g ad A u t) A) ([.ref (ad 0), .int x1] : List Value).toArray s 0 0 A) (F0 m 7 ls []) := by
    intro n7
    induction n7 with
    | zero => intro U7 v7_1 v7_2 v7_3 v7_4 H locs ls h hsh hR hl; unfold w_nearestOf_L7 at h; exact h.elim
    | succ n7 ih_7 =>
      intro U7 v7_1 v7_2 v7_3 v7_4 H locs ls h hsh hR hl
      unfold w_nearestOf_L7 at h
      refine lv_iload hx hb dX14_nearestOf_7 (lv_at hl 4 rfl) ?_
      refine lv_aload_n hx hb dX14_nearestOf_9 rfl (lv_at hl 0 rfl) ?_
      refine va_get (D := rD g) (ci := 13) (v := .int (qI U7 0 105)) (C := RX14) (T := TX14) (N := 143) hx hb hts in2X14 hown hR.K hR.P 0 (hR.at14 hR.w.1) rfl 105 (by decide) (hts _ kx_670) (fun _ h9 => h9) rfl dX14_nearestOf_10 ?_
      refine lv_icmp_ge (tgt := 67) hx hb dX14_nearestOf_13 (by decide) (fun c1 => ?_) (fun c1 => ?_)
      · replace h := h.1 (k_le rfl rfl c1)
        refine lv_iload_n hx hb dX14_nearestOf_67 rfl (lv_at hl 2 rfl) ?_
        exact W.iret (v := v7_2) hx hb hr (fun t9 ht9 hW9 => ⟨⟨_, U7, rfl, ⟨h, hR.w, hsh⟩, ⟨by rw [ht9]; exact hR.P, hR.D⟩⟩, hR.sS.F ht9⟩) hR.sS.2.2 dX14_nearestOf_68
      · replace h := h.2 (k_nle rfl rfl c1)
        refine lv_iload hx hb dX14_nearestOf_16 (lv_at hl 4 rfl) ?_
        refine lv_iload_n hx hb dX14_nearestOf_18 rfl (lv_at hl 1 rfl) ?_
        have J_61 : ∀ (U61 : MS) (v61_1 : Int32) (v61_2 : Int32) (v61_3 : Int32) (v61_4 : Int32) (H : Heap) (locs : List Loc) (ls : Array Slot), w_nearestOf_J61 Q (w_nearestOf_L7 Q n7) U61 v61_1 v61_2 v61_3 v61_4 → shy S U61 → Rep g ad A s U61 H locs → lv_has ls 5 [(0, .ref (ad 0)), (1, .int v61_1), (2, .int v61_2), (3, .int v61_3), (4, .int v61_4)] → W p l e (headSpec (wt2 yX14_nearestOf cX14_nearestOf 5 (some .int)) ({ frames := 1, cells := 0, slots := 0, locals := 22 })).room s m ([.ref (ad 0), .int x1] : List Value).toArray below meth c H locs 0 0 (MQ below (va_Qi (fun (r : Int32) (u : MS) => Q r u ∧ wfM u ∧ shy S u) (fun (u : MS) (t : State) => qE g ad A u t) A) ([.ref (ad 0), .int x1] : List Value).toArray s 0 0 A) (F0 m 61 ls []) := by
          intro U61 v61_1 v61_2 v61_3 v61_4 H locs ls h hsh hR hl
          unfold w_nearestOf_J61 at h
          obtain ⟨a2, ea2⟩ : ∃ z, z = (v61_4 + Int32.ofInt 1) := ⟨_, rfl⟩
          replace h := h a2 ea2
          refine lv_iinc (v := a2) (lv' := [(4, .int a2), (0, .ref (ad 0)), (1, .int v61_1), (2, .int v61_2), (3, .int v61_3)]) hx hb dX14_nearestOf_61 hl (k := 4) rfl ea2.symm (by decide) rfl (fun ls hl => ?_)
          refine lv_goto (tgt := 7) hx hb dX14_nearestOf_64 (by decide) ?_
          exact ih_7 U61 v61_1 v61_2 v61_3 a2 _ _ ls h  hsh hR (lv_sub hl [1, 2, 3, 4, 0] rfl)
        refine lv_icmp_eq (tgt := 61) hx hb dX14_nearestOf_19 (by decide) (fun c3 => ?_) (fun c3 => ?_)
        · replace h := h.1 (k_eq rfl rfl c3)
          exact J_61 U7 v7_1 v7_2 v7_3 v7_4 _ _ ls h  hsh hR (lv_sub hl [0, 1, 2, 3, 4] rfl)
        · replace h := h.2 (k_ne rfl rfl c3)
          refine lv_aload_n hx hb dX14_nearestOf_22 rfl (lv_at hl 0 rfl) ?_
          refine lv_iload hx hb dX14_nearestOf_23 (lv_at hl 4 rfl) ?_
          refine lv_iload_n hx hb dX14_nearestOf_25 rfl (lv_at hl 1 rfl) ?_
          obtain ⟨hv4, h⟩ := h
          have hFc := rfree hR hA
          refine va_calli (va_runV (As := [.int v7_4, .int v7_1]) (rest := []) ⟨hx, hb, hml, hown, hts⟩ (r_dominates l g ad H.size U7 v7_4 v7_1 hR.w  hv4) (cwV 2 hts (gd2_V kx_682 kx_683 kx_684 kx_177 kx_685) rfl rfl rfl (by decide +kernel) ⟨Nat.le_of_ble_eq_true rfl, Nat.le_of_ble_eq_true rfl⟩) ⟨rblind, va_recv hR.K hR.P (ci := 13) (q0 := 0) rfl (hR.at14 hR.w.1), fun U hU hW9 => rmk hU hW9 hR hex hE hFc⟩ rfl rfl hl.1 rfl (lv_room (Nat.le_of_ble_eq_true rfl)) dX14_nearestOf_26 ⟨Nat.le_of_ble_eq_true rfl, Nat.le_of_ble_eq_true rfl⟩) hR.sS (fun q _ h => hFc q h) hFc (fun r5 u9 t9 H1 locs ht9 hvm9 hw9 hB9 hz9 hk9 hS => ?_)
          have hR : Rep g ad A s U7 H1 locs := hR.call ht9 hB9 hR.w hS hFc
          obtain ⟨rfl, hz_r5⟩ := hw9
          clear hB9 hz9 hk9 hvm9 ht9 hS
          generalize H1 = H at hR ⊢
          refine lv_if_ne (tgt := 35) hx hb dX14_nearestOf_29 (by decide) (fun c7 => ?_) (fun c7 => ?_)
          · replace h := h.2 (k_ne rfl (by decide) c7)
            refine lv_aload_n hx hb dX14_nearestOf_35 rfl (lv_at hl 0 rfl) ?_
            refine va_get (D := rD g) (ci := 13) (v := .ref (ad 59)) (C := RX14) (T := TX14) (N := 143) hx hb hts in2X14 hown hR.K hR.P 0 (hR.at14 hR.w.1) rfl 117 (by decide) (hts _ kx_686) (fun _ h9 => h9) (congrArg (fun z => some (vf ad z)) (hR.w.2.1 _ fin_117).1) dX14_nearestOf_36 ?_
            refine lv_iload hx hb dX14_nearestOf_39 (lv_at hl 4 rfl) ?_
            obtain ⟨hv8, h⟩ := h
            refine va_iald hx hb hR.K hR.P 59 1 (hR.atI (hR.w.2.1 _ fin_117).2.1) rfl (k_ixN (k_ix (n := 1200) (x := v7_4) (a := v7_4.toInt) rfl hv8) (hR.w.2.1 _ fin_117).2.2) dX14_nearestOf_41 ?_
            refine lv_topi (fun z9 ez9 => ?_)
            obtain rfl : z9 = (qI U7 59 v7_4.toInt.toNat) := ez9
            refine lv_iload_n hx hb dX14_nearestOf_42 rfl (lv_at hl 3 rfl) ?_
            have J_49 : ∀ (U49 : MS) (v49_1 : Int32) (v49_2 : Int32) (v49_3 : Int32) (v49_4 : Int32) (H : Heap) (locs : List Loc) (ls : Array Slot), w_nearestOf_J49 Q (w_nearestOf_L7 Q n7) U49 v49_1 v49_2 v49_3 v49_4 → shy S U49 → Rep g ad A s U49 H locs → lv_has ls 5 [(0, .ref (ad 0)), (1, .int v49_1), (2, .int v49_2), (3, .int v49_3), (4, .int v49_4)] → W p l e (headSpec (wt2 yX14_nearestOf cX14_nearestOf 5 (some .int)) ({ frames := 1, cells := 0, slots := 0, locals := 22 })).room s m ([.ref (ad 0), .int x1] : List Value).toArray below meth c H locs 0 0 (MQ below (va_Qi (fun (r : Int32) (u : MS) => Q r u ∧ wfM u ∧ shy S u) (fun (u : MS) (t : State) => qE g ad A u t) A) ([.ref (ad 0), .int x1] : List Value).toArray s 0 0 A) (F0 m 49 ls []) := by
              intro U49 v49_1 v49_2 v49_3 v49_4 H locs ls h hsh hR hl
              unfold w_nearestOf_J49 at h
              refine lv_iload_n hx hb dX14_nearestOf_49 rfl (lv_at hl 3 rfl) ?_
              refine lv_aload_n hx hb dX14_nearestOf_50 rfl (lv_at hl 0 rfl) ?_
              refine va_get (D := rD g) (ci := 13) (v := .ref (ad 59)) (C := RX14) (T := TX14) (N := 143) hx hb hts in2X14 hown hR.K hR.P 0 (hR.at14 hR.w.1) rfl 117 (by decide) (hts _ kx_686) (fun _ h9 => h9) (congrArg (fun z => some (vf ad z)) (hR.w.2.1 _ fin_117).1) dX14_nearestOf_51 ?_
              refine lv_iload hx hb dX14_nearestOf_54 (lv_at hl 4 rfl) ?_
              obtain ⟨hv10, h⟩ := h
              refine va_iald hx hb hR.K hR.P 59 1 (hR.atI (hR.w.2.1 _ fin_117).2.1) rfl (k_ixN (k_ix (n := 1200) (x := v49_4) (a := v49_4.toInt) rfl hv10) (hR.w.2.1 _ fin_117).2.2) dX14_nearestOf_56 ?_
              refine lv_topi (fun z11 ez11 => ?_)
              obtain rfl : z11 = (qI U49 59 v49_4.toInt.toNat) := ez11
              refine va_mmax hx hb (by rw [hml]; exact hl.1.symm) hown (hts _ kx_591) (hts _ kx_39) (hts _ kx_40) (hts _ kx_41) (Nat.le_of_ble_eq_true rfl) (Nat.le_of_ble_eq_true rfl) (Nat.le_of_ble_eq_true rfl) (Nat.le_of_ble_eq_true rfl) dX14_nearestOf_57 ?_
              refine lv_topi (fun z12 ez12 => ?_)
              obtain rfl : z12 = (if v49_3 < (qI U49 59 v49_4.toInt.toNat) then (qI U49 59 v49_4.toInt.toNat) else v49_3) := ez12
              obtain ⟨a13, ea13⟩ : ∃ z, z = (if v49_3 < (qI U49 59 v49_4.toInt.toNat) then (qI U49 59 v49_4.toInt.toNat) else v49_3) := ⟨_, rfl⟩
              rw [← ea13]
              replace h := h a13 ea13
              refine lv_istore_n (lv' := [(3, .int a13), (0, .ref (ad 0)), (1, .int v49_1), (2, .int v49_2), (4, .int v49_4)]) hx hb dX14_nearestOf_60 rfl hl (by decide) rfl (fun ls hl => ?_)
              exact J_61 U49 v49_1 v49_2 a13 v49_4 _ _ ls h  hsh hR (lv_sub hl [1, 2, 3, 0, 4] rfl)
            refine lv_icmp_le (tgt := 49) hx hb dX14_nearestOf_43 (by decide) (fun c14 => ?_) (fun c14 => ?_)
            · replace h := h.1 (k_le rfl rfl c14)
              exact J_49 U7 v7_1 v7_2 v7_3 v7_4 _ _ ls h  hsh hR (lv_sub hl [0, 1, 2, 3, 4] rfl)
            · replace h := h.2 (k_nle rfl rfl c14)
              refine lv_iload hx hb dX14_nearestOf_46 (lv_at hl 4 rfl) ?_
              refine lv_istore_n (lv' := [(2, .int v7_4), (0, .ref (ad 0)), (1, .int v7_1), (3, .int v7_3), (4, .int v7_4)]) hx hb dX14_nearestOf_48 rfl hl (by decide) rfl (fun ls hl => ?_)
              exact J_49 U7 v7_1 v7_4 v7_3 v7_4 _ _ ls h  hsh hR (lv_sub hl [1, 2, 0, 3, 4] rfl)
          · replace h := h.1 (k_eq rfl (by decide) c7)
            refine lv_goto (tgt := 61) hx hb dX14_nearestOf_32 (by decide) ?_
            exact J_61 U7 v7_1 v7_2 v7_3 v7_4 _ _ ls h  hsh hR (lv_sub hl [0, 1, 2, 3, 4] rfl)
  obtain ⟨n9, h⟩ := h
  exact J_7 n9 S x1 (-1) 0 0 _ _ ls h  hsh hR (lv_sub hl [3, 4, 2, 1, 0] rfl)
def w_loop_J294 (Q : MS → Prop) (k264 : MS → Int32 → Prop) (U294 : MS) (v294_4 : Int32) : Prop := (∀ a11 : Int32, a11 = (v294_4 + Int32.ofInt 1) → k264 U294 a11)
def w_loop_L264 (Q : MS → Prop) : Nat → MS → Int32 → Prop
  | 0, _, _ => False
  | n264 + 1, U264, v264_4 => (((qI U264 0 105).toInt ≤ v264_4.toInt → Q U264) ∧ (¬ (qI U264 0 105).toInt ≤ v264_4.toInt → (((0 : Int) ≤ v264_4.toInt ∧ v264_4.toInt < 1200) ∧ (((qI U264 58 v264_4.toInt.toNat).toInt = 0 → w_loop_J294 Q (w_loop_L264 Q n264) U264 v264_4) ∧ (¬ (qI U264 58 v264_4.toInt.toNat).toInt = 0 → (((0 : Int) ≤ v264_4.toInt ∧ v264_4.toInt < 1200) ∧ (((0 : Int) ≤ v264_4.toInt ∧ v264_4.toInt < 1200) ∧ (∀ S17, S17 = wI U264 57 v264_4.toInt.toNat ((qI U264 57 v264_4.toInt.toNat) + (1 : Int32)) → w_loop_J294 Q (w_loop_L264 Q n264) S17 v264_4))))))))
def w_loop_J252 (Q : MS → Prop) (k137 : MS → Int32 → Int32 → Int32 → Prop) (U252 : MS) (v252_1 : Int32) (v252_3 : Int32) (v252_4 : Int32) : Prop := (∀ a21 : Int32, a21 = (v252_4 + Int32.ofInt 1) → k137 U252 v252_1 v252_3 a21)
def w_loop_J251 (Q : MS → Prop) (k137 : MS → Int32 → Int32 → Int32 → Prop) (U251 : MS) (t251_0 : Int32) (v251_1 : Int32) (v251_4 : Int32) : Prop := w_loop_J252 Q k137 U251 v251_1 t251_0 v251_4
def w_loop_J246 (Q : MS → Prop) (k137 : MS → Int32 → Int32 → Int32 → Prop) (U246 : MS) (v246_1 : Int32) (v246_4 : Int32) : Prop := w_loop_J251 Q k137 U246 1 v246_1 v246_4
def w_loop_J226 (Q : MS → Prop) (k178 : MS → Int32 → Int32 → Int32 → Int32 → Prop) (U226 : MS) (v226_1 : Int32) (v226_3 : Int32) (v226_4 : Int32) (v226_5 : Int32) : Prop := (∀ a41 : Int32, a41 = (v226_5 + Int32.ofInt 1) → k178 U226 v226_1 v226_3 v226_4 a41)
def w_loop_L178 (Q : MS → Prop) (k137 : MS → Int32 → Int32 → Int32 → Prop) : Nat → MS → Int32 → Int32 → Int32 → Int32 → Prop
  | 0, _, _, _, _, _ => False
  | n178 + 1, U178, v178_1, v178_3, v178_4, v178_5 => (((0 : Int) ≤ (v178_4 + (1 : Int32)).toInt ∧ (v178_4 + (1 : Int32)).toInt < 1202) ∧ (((qI U178 51 (((v178_4 + (1 : Int32)).toInt).toNat)).toInt ≤ v178_5.toInt → ((v178_3.toInt = 0 → (((0 : Int) ≤ v178_4.toInt ∧ v178_4.toInt < 1200) ∧ (((qI U178 58 v178_4.toInt.toNat).toInt = 0 → w_loop_J251 Q k137 U178 0 v178_1 v178_4) ∧ (¬ (qI U178 58 v178_4.toInt.toNat).toInt = 0 → w_loop_J246 Q k137 U178 v178_1 v178_4)))) ∧ (¬ v178_3.toInt = 0 → w_loop_J246 Q k137 U178 v178_1 v178_4))) ∧ (¬ (qI U178 51 (((v178_4 + (1 : Int32)).toInt).toNat)).toInt ≤ v178_5.toInt → (((0 : Int) ≤ v178_5.toInt ∧ v178_5.toInt < 24000) ∧ (((0 : Int) ≤ (qI U178 52 v178_5.toInt.toNat).toInt ∧ (qI U178 52 v178_5.toInt.toNat).toInt < 1200) ∧ (((qI U178 58 (((qI U178 52 v178_5.toInt.toNat).toInt).toNat)).toInt = 0 → w_loop_J226 Q (w_loop_L178 Q k137 n178) U178 v178_1 v178_3 v178_4 v178_5) ∧ (¬ (qI U178 58 (((qI U178 52 v178_5.toInt.toNat).toInt).toNat)).toInt = 0 → (((0 : Int) ≤ v178_5.toInt ∧ v178_5.toInt < 24000) ∧ (((qI U178 52 v178_5.toInt.toNat).toInt = v178_1.toInt → w_loop_J226 Q (w_loop_L178 Q k137 n178) U178 v178_1 v178_3 v178_4 v178_5) ∧ (¬ (qI U178 52 v178_5.toInt.toNat).toInt = v178_1.toInt → (((0 : Int) ≤ v178_4.toInt ∧ v178_4.toInt < 1200) ∧ (∀ S47, S47 = wI U178 58 v178_4.toInt.toNat (vp_nar .boolean (1 : Int32)) → w_loop_J226 Q (w_loop_L178 Q k137 n178) S47 v178_1 v178_3 v178_4 v178_5))))))))))))
def w_loop_L137 (Q : MS → Prop) (k128 : MS → Int32 → Int32 → Prop) : Nat → MS → Int32 → Int32 → Int32 → Prop
  | 0, _, _, _, _ => False
  | n137 + 1, U137, v137_1, v137_3, v137_4 => (((qI U137 0 105).toInt ≤ v137_4.toInt → k128 U137 v137_1 v137_3) ∧ (¬ (qI U137 0 105).toInt ≤ v137_4.toInt → (((0 : Int) ≤ v137_4.toInt ∧ v137_4.toInt < 1200) ∧ (((qI U137 58 v137_4.toInt.toNat).toInt = 0 → (((0 : Int) ≤ v137_4.toInt ∧ v137_4.toInt < 1200) ∧ (((qI U137 53 v137_4.toInt.toNat).toInt = 0 → w_loop_J252 Q (w_loop_L137 Q k128 n137) U137 v137_1 v137_3 v137_4) ∧ (¬ (qI U137 53 v137_4.toInt.toNat).toInt = 0 → (((0 : Int) ≤ v137_4.toInt ∧ v137_4.toInt < 1202) ∧ (∀ a28 : Int32, a28 = (qI U137 51 v137_4.toInt.toNat) → (∃ n, w_loop_L178 Q (w_loop_L137 Q k128 n137) n U137 v137_1 v137_3 v137_4 a28))))))) ∧ (¬ (qI U137 58 v137_4.toInt.toNat).toInt = 0 → w_loop_J252 Q (w_loop_L137 Q k128 n137) U137 v137_1 v137_3 v137_4)))))
def w_loop_L128 (Q : MS → Prop) : Nat → MS → Int32 → Int32 → Prop
  | 0, _, _, _ => False
  | n128 + 1, U128, v128_1, v128_3 => ((v128_3.toInt = 0 → (∃ n, w_loop_L264 Q n U128 0)) ∧ (¬ v128_3.toInt = 0 → (∃ n, w_loop_L137 Q (w_loop_L128 Q n128) n U128 v128_1 0 0)))
def w_loop_J100 (Q : MS → Prop) (k4 : MS → Int32 → Int32 → Int32 → Prop) (U100 : MS) (t100_0 : Int32) (v100_1 : Int32) (v100_3 : Int32) : Prop := (∀ a55 : Int32, a55 = (v100_3 + Int32.ofInt 1) → k4 U100 v100_1 t100_0 a55)
def w_loop_J95 (Q : MS → Prop) (k4 : MS → Int32 → Int32 → Int32 → Prop) (U95 : MS) (v95_1 : Int32) (v95_3 : Int32) : Prop := w_loop_J100 Q k4 U95 1 v95_1 v95_3
def w_loop_J82 (Q : MS → Prop) (k4 : MS → Int32 → Int32 → Int32 → Prop) (U82 : MS) (v82_1 : Int32) (v82_2 : Int32) (v82_3 : Int32) : Prop := ((v82_2.toInt = 0 → (((0 : Int) ≤ v82_3.toInt ∧ v82_3.toInt < 1200) ∧ (((qI U82 58 v82_3.toInt.toNat).toInt = 0 → w_loop_J100 Q k4 U82 0 v82_1 v82_3) ∧ (¬ (qI U82 58 v82_3.toInt.toNat).toInt = 0 → w_loop_J95 Q k4 U82 v82_1 v82_3)))) ∧ (¬ v82_2.toInt = 0 → w_loop_J95 Q k4 U82 v82_1 v82_3))
def w_loop_J76 (Q : MS → Prop) (k27 : MS → Int32 → Int32 → Int32 → Int32 → Prop) (U76 : MS) (v76_1 : Int32) (v76_2 : Int32) (v76_3 : Int32) (v76_4 : Int32) : Prop := (∀ a67 : Int32, a67 = (v76_4 + Int32.ofInt 1) → k27 U76 v76_1 v76_2 v76_3 a67)
def w_loop_L27 (Q : MS → Prop) (k4 : MS → Int32 → Int32 → Int32 → Prop) : Nat → MS → Int32 → Int32 → Int32 → Int32 → Prop
  | 0, _, _, _, _, _ => False
  | n27 + 1, U27, v27_1, v27_2, v27_3, v27_4 => (((0 : Int) ≤ v27_3.toInt ∧ v27_3.toInt < 1200) ∧ (((qI U27 53 v27_3.toInt.toNat).toInt = 0 → w_loop_J82 Q k4 U27 v27_1 v27_2 v27_3) ∧ (¬ (qI U27 53 v27_3.toInt.toNat).toInt = 0 → (((0 : Int) ≤ (v27_3 + (1 : Int32)).toInt ∧ (v27_3 + (1 : Int32)).toInt < 1202) ∧ (((qI U27 51 (((v27_3 + (1 : Int32)).toInt).toNat)).toInt ≤ v27_4.toInt → w_loop_J82 Q k4 U27 v27_1 v27_2 v27_3) ∧ (¬ (qI U27 51 (((v27_3 + (1 : Int32)).toInt).toNat)).toInt ≤ v27_4.toInt → (((0 : Int) ≤ v27_4.toInt ∧ v27_4.toInt < 24000) ∧ (((qI U27 52 v27_4.toInt.toNat).toInt = v27_1.toInt → (d_dominates U27 v27_1 v27_3 ∧ (((f_dominates U27 v27_1 v27_3).toInt = 0 → w_loop_J76 Q (w_loop_L27 Q k4 n27) U27 v27_1 v27_2 v27_3 v27_4) ∧ (¬ (f_dominates U27 v27_1 v27_3).toInt = 0 → (((0 : Int) ≤ v27_3.toInt ∧ v27_3.toInt < 1200) ∧ (∀ S74, S74 = wI U27 58 v27_3.toInt.toNat (vp_nar .boolean (1 : Int32)) → w_loop_J76 Q (w_loop_L27 Q k4 n27) S74 v27_1 v27_2 v27_3 v27_4)))))) ∧ (¬ (qI U27 52 v27_4.toInt.toNat).toInt = v27_1.toInt → w_loop_J76 Q (w_loop_L27 Q k4 n27) U27 v27_1 v27_2 v27_3 v27_4)))))))))
def w_loop_L4 (Q : MS → Prop) : Nat → MS → Int32 → Int32 → Int32 → Prop
  | 0, _, _, _, _ => False
  | n4 + 1, U4, v4_1, v4_2, v4_3 => (((qI U4 0 105).toInt ≤ v4_3.toInt → ((v4_2.toInt = 0 → Q U4) ∧ (¬ v4_2.toInt = 0 → (((0 : Int) ≤ v4_1.toInt ∧ v4_1.toInt < 1200) ∧ (∀ S4, S4 = wI U4 56 v4_1.toInt.toNat (vp_nar .boolean (1 : Int32)) → (((0 : Int) ≤ v4_1.toInt ∧ v4_1.toInt < 1200) ∧ (∀ S6, S6 = wI S4 58 v4_1.toInt.toNat (vp_nar .boolean (1 : Int32)) → (∃ n, w_loop_L128 Q n S6 v4_1 1)))))))) ∧ (¬ (qI U4 0 105).toInt ≤ v4_3.toInt → (((0 : Int) ≤ v4_3.toInt ∧ v4_3.toInt < 1200) ∧ (∀ S49, S49 = wI U4 58 v4_3.toInt.toNat (vp_nar .boolean (0 : Int32)) → (((0 : Int) ≤ v4_3.toInt ∧ v4_3.toInt < 1202) ∧ (∀ a52 : Int32, a52 = (qI S49 51 v4_3.toInt.toNat) → (∃ n, w_loop_L27 Q (w_loop_L4 Q n4) n S49 v4_1 v4_2 v4_3 a52)))))))
def w_loop (S : MS) (x1 : Int32) (Q : MS → Prop) : Prop := (∃ n, w_loop_L4 Q n S x1 0 0)
set_option maxHeartbeats 2000000 in
set_option maxRecDepth 100000 in
theorem r_loop (l : Launch) (g : Gr) (ad : Nat → Nat) (sz : Nat) (S : MS) (x1 : Int32) (hw : wfM S) (Q : MS → Prop) (h : w_loop S x1 Q) : Met l yX14_loop (wt2 yX14_loop cX14_loop 6 none) ({ frames := 1, cells := 0, slots := 0, locals := 22 }) (va_Pc [.ref (ad 0), .int x1] (st_R g ad sz S)) (va_Qv (fun (u : MS) => Q u ∧ wfM u ∧ shy S u) (fun (u : MS) (t : State) => qE g ad (va_A (Wd g ad S) sz) u t) (va_A (Wd g ad S) sz)) 0 0 (va_A (Wd g ad S) sz) := by
  refine Met.ofW (cc := cX14_loop) (maxL := 6) (ret := none) (by decide) rfl ?_
  intro p e s m args below meth c s₁ B hml hv
  obtain ⟨rfl, hsz, hP, hK, hD0, hex, hE⟩ := hv
  have hx := B.exec
  have hb := B.bytes
  have hr := B.returns
  have hts0 := atoms_spec (ws := wt2 yX14_loop cX14_loop 6 none) B.pre
  have hts : ∀ w ∈ tb2, w.before _ s = true := fun w h => hts0 w (List.mem_cons_of_mem _ h)
  have hown : s.vm.findClass RX14 = some m.cls := findClass_of_methodNamed B.named
  subst hsz
  have hD := hD0.self (sz := s.heap.size)
  generalize hAe : va_A (Wd g ad S) s.heap.size = A at hD hE ⊢
  have hA : ∀ q : Nat, s.heap.size ≤ q → A q := fun q h => by rw [← hAe]; exact Or.inr h
  have hR : Rep g ad A s S s.heap [] := ⟨hK, hP, hD, va_S.rf, hw⟩
  clear hK hP hD hD0
  have hl := lv_entry ([.ref (ad 0), .int x1]) (n := 6) (Nat.le_of_ble_eq_true rfl)
  rw [lg_entry_eq]
  generalize (lg_sl ([.ref (ad 0), .int x1]) ++ List.replicate (6 - (lg_sl ([.ref (ad 0), .int x1])).length) Slot.unset).toArray = ls at hl ⊢
  have hl : lv_has ls 6 [(0, .ref (ad 0)), (1, .int x1)] := hl
  have hsh : shy S S := shy.rf
  unfold w_loop at h
  refine lv_iconst (v := 0) hx hb dX14_loop_0 (by decide) ?_
  refine lv_istore_n (lv' := [(2, .int 0), (0, .ref (ad 0)), (1, .int x1)]) hx hb dX14_loop_1 rfl hl (by decide) rfl (fun ls hl => ?_)
  refine lv_iconst (v := 0) hx hb dX14_loop_2 (by decide) ?_
  refine lv_istore_n (lv' := [(3, .int 0), (2, .int 0), (0, .ref (ad 0)), (1, .int x1)]) hx hb dX14_loop_3 rfl hl (by decide) rfl (fun ls hl => ?_)
  have J_4 : ∀ (n4 : Nat) (U4 : MS) (v4_1 : Int32) (v4_2 : Int32) (v4_3 : Int32) (H : Heap) (locs : List Loc) (ls : Array Slot), w_loop_L4 Q n4 U4 v4_1 v4_2 v4_3 → (v4_2 = 0 ∨ v4_2 = 1) → shy S U4 → Rep g ad A s U4 H locs → lv_has ls 6 [(0, .ref (ad 0)), (1, .int v4_1), (2, .int v4_2), (3, .int v4_3)] → W p l e (headSpec (wt2 yX14_loop cX14_loop 6 none) ({ frames := 1, cells := 0, slots := 0, locals := 22 })).room s m ([.ref (ad 0), .int x1] : List Value).toArray below meth c H locs 0 0 (MQ below (va_Qv (fun (u : MS) => Q u ∧ wfM u ∧ shy S u) (fun (u : MS) (t : State) => qE g ad A u t) A) ([.ref (ad 0), .int x1] : List Value).toArray s 0 0 A) (F0 m 4 ls []) := by
    intro n4
    induction n4 with
    | zero => intro U4 v4_1 v4_2 v4_3 H locs ls h hz_v4_2 hsh hR hl; unfold w_loop_L4 at h; exact h.elim
    | succ n4 ih_4 =>
      intro U4 v4_1 v4_2 v4_3 H locs ls h hz_v4_2 hsh hR hl
      unfold w_loop_L4 at h
      refine lv_iload_n hx hb dX14_loop_4 rfl (lv_at hl 3 rfl) ?_
      refine lv_aload_n hx hb dX14_loop_5 rfl (lv_at hl 0 rfl) ?_
      refine va_get (D := rD g) (ci := 13) (v := .int (qI U4 0 105)) (C := RX14) (T := TX14) (N := 143) hx hb hts in2X14 hown hR.K hR.P 0 (hR.at14 hR.w.1) rfl 105 (by decide) (hts _ kx_670) (fun _ h9 => h9) rfl dX14_loop_6 ?_
      refine lv_icmp_ge (tgt := 107) hx hb dX14_loop_9 (by decide) (fun c1 => ?_) (fun c1 => ?_)
      · replace h := h.1 (k_le rfl rfl c1)
        refine lv_iload_n hx hb dX14_loop_107 rfl (lv_at hl 2 rfl) ?_
        refine lv_if_ne (tgt := 112) hx hb dX14_loop_108 (by decide) (fun c2 => ?_) (fun c2 => ?_)
        · replace h := h.2 (k_ne rfl (by decide) c2)
          refine lv_aload_n hx hb dX14_loop_112 rfl (lv_at hl 0 rfl) ?_
          refine va_get (D := rD g) (ci := 13) (v := .ref (ad 56)) (C := RX14) (T := TX14) (N := 143) hx hb hts in2X14 hown hR.K hR.P 0 (hR.at14 hR.w.1) rfl 114 (by decide) (hts _ kx_687) (fun _ h9 => h9) (congrArg (fun z => some (vf ad z)) (hR.w.2.1 _ fin_114).1) dX14_loop_113 ?_
          refine lv_iload_n hx hb dX14_loop_116 rfl (lv_at hl 1 rfl) ?_
          refine lv_iconst (v := 1) hx hb dX14_loop_117 (by decide) ?_
          obtain ⟨hv3, h⟩ := h
          refine va_zast hx hb hR.K hR.P hR.D hR.sS 56 2 (hR.atZ (hR.w.2.1 _ fin_114).2.1) rfl (k_ixN (k_ix (n := 1200) (x := v4_1) (a := v4_1.toInt) rfl hv3) (hR.w.2.1 _ fin_114).2.2) dX14_loop_118 (fun H locs hP hD hS => ?_)
          have hR : Rep g ad A s (wI U4 56 v4_1.toInt.toNat (vp_nar .boolean (1 : Int32))) H locs := hR.aZ (hR.w.2.1 _ fin_114).2.1 hP hD hS
          obtain ⟨S4, eS4⟩ : ∃ z, z = wI U4 56 v4_1.toInt.toNat (vp_nar .boolean (1 : Int32)) := ⟨_, rfl⟩
          rw [← eS4] at hR
          replace h := h S4 eS4
          have hsh : shy S S4 := by rw [eS4]; exact hsh
          refine lv_aload_n hx hb dX14_loop_119 rfl (lv_at hl 0 rfl) ?_
          refine va_get (D := rD g) (ci := 13) (v := .ref (ad 58)) (C := RX14) (T := TX14) (N := 143) hx hb hts in2X14 hown hR.K hR.P 0 (hR.at14 hR.w.1) rfl 116 (by decide) (hts _ kx_688) (fun _ h9 => h9) (congrArg (fun z => some (vf ad z)) (hR.w.2.1 _ fin_116).1) dX14_loop_120 ?_
          refine lv_iload_n hx hb dX14_loop_123 rfl (lv_at hl 1 rfl) ?_
          refine lv_iconst (v := 1) hx hb dX14_loop_124 (by decide) ?_
          obtain ⟨hv5, h⟩ := h
          refine va_zast hx hb hR.K hR.P hR.D hR.sS 58 2 (hR.atZ (hR.w.2.1 _ fin_116).2.1) rfl (k_ixN (k_ix (n := 1200) (x := v4_1) (a := v4_1.toInt) rfl hv5) (hR.w.2.1 _ fin_116).2.2) dX14_loop_125 (fun H locs hP hD hS => ?_)
          have hR : Rep g ad A s (wI S4 58 v4_1.toInt.toNat (vp_nar .boolean (1 : Int32))) H locs := hR.aZ (hR.w.2.1 _ fin_116).2.1 hP hD hS
          obtain ⟨S6, eS6⟩ : ∃ z, z = wI S4 58 v4_1.toInt.toNat (vp_nar .boolean (1 : Int32)) := ⟨_, rfl⟩
          rw [← eS6] at hR
          replace h := h S6 eS6
          have hsh : shy S S6 := by rw [eS6]; exact hsh
          refine lv_iconst (v := 1) hx hb dX14_loop_126 (by decide) ?_
          refine lv_istore_n (lv' := [(3, .int 1), (0, .ref (ad 0)), (1, .int v4_1), (2, .int v4_2)]) hx hb dX14_loop_127 rfl hl (by decide) rfl (fun ls hl => ?_)
          have J_128 : ∀ (n128 : Nat) (U128 : MS) (v128_1 : Int32) (v128_3 : Int32) (H : Heap) (locs : List Loc) (ls : Array Slot), w_loop_L128 Q n128 U128 v128_1 v128_3 → shy S U128 → Rep g ad A s U128 H locs → lv_has ls 6 [(0, .ref (ad 0)), (1, .int v128_1), (3, .int v128_3)] → W p l e (headSpec (wt2 yX14_loop cX14_loop 6 none) ({ frames := 1, cells := 0, slots := 0, locals := 22 })).room s m ([.ref (ad 0), .int x1] : List Value).toArray below meth c H locs 0 0 (MQ below (va_Qv (fun (u : MS) => Q u ∧ wfM u ∧ shy S u) (fun (u : MS) (t : State) => qE g ad A u t) A) ([.ref (ad 0), .int x1] : List Value).toArray s 0 0 A) (F0 m 128 ls []) := by
            intro n128
            induction n128 with
            | zero => intro U128 v128_1 v128_3 H locs ls h hsh hR hl; unfold w_loop_L128 at h; exact h.elim
            | succ n128 ih_128 =>
              intro U128 v128_1 v128_3 H locs ls h hsh hR hl
              unfold w_loop_L128 at h
              refine lv_iload_n hx hb dX14_loop_128 rfl (lv_at hl 2 rfl) ?_
              refine lv_if_eq (tgt := 261) hx hb dX14_loop_129 (by decide) (fun c7 => ?_) (fun c7 => ?_)
              · replace h := h.1 (k_eq rfl (by decide) c7)
                refine lv_iconst (v := 0) hx hb dX14_loop_261 (by decide) ?_
                refine lv_istore (lv' := [(4, .int 0), (0, .ref (ad 0)), (1, .int v128_1), (3, .int v128_3)]) hx hb dX14_loop_262 hl (by decide) rfl (fun ls hl => ?_)
                have J_264 : ∀ (n264 : Nat) (U264 : MS) (v264_4 : Int32) (H : Heap) (locs : List Loc) (ls : Array Slot), w_loop_L264 Q n264 U264 v264_4 → shy S U264 → Rep g ad A s U264 H locs → lv_has ls 6 [(0, .ref (ad 0)), (4, .int v264_4)] → W p l e (headSpec (wt2 yX14_loop cX14_loop 6 none) ({ frames := 1, cells := 0, slots := 0, locals := 22 })).room s m ([.ref (ad 0), .int x1] : List Value).toArray below meth c H locs 0 0 (MQ below (va_Qv (fun (u : MS) => Q u ∧ wfM u ∧ shy S u) (fun (u : MS) (t : State) => qE g ad A u t) A) ([.ref (ad 0), .int x1] : List Value).toArray s 0 0 A) (F0 m 264 ls []) := by
                  intro n264
                  induction n264 with
                  | zero => intro U264 v264_4 H locs ls h hsh hR hl; unfold w_loop_L264 at h; exact h.elim
                  | succ n264 ih_264 =>
                    intro U264 v264_4 H locs ls h hsh hR hl
                    unfold w_loop_L264 at h
                    refine lv_iload hx hb dX14_loop_264 (lv_at hl 1 rfl) ?_
                    refine lv_aload_n hx hb dX14_loop_266 rfl (lv_at hl 0 rfl) ?_
                    refine va_get (D := rD g) (ci := 13) (v := .int (qI U264 0 105)) (C := RX14) (T := TX14) (N := 143) hx hb hts in2X14 hown hR.K hR.P 0 (hR.at14 hR.w.1) rfl 105 (by decide) (hts _ kx_670) (fun _ h9 => h9) rfl dX14_loop_267 ?_
                    refine lv_icmp_ge (tgt := 300) hx hb dX14_loop_270 (by decide) (fun c8 => ?_) (fun c8 => ?_)
                    · replace h := h.1 (k_le rfl rfl c8)
                      exact W.vret hx hb hr (fun t9 ht9 hW9 => ⟨⟨U264, rfl, ⟨h, hR.w, hsh⟩, ⟨by rw [ht9]; exact hR.P, hR.D⟩⟩, hR.sS.F ht9⟩) hR.sS.2.2 dX14_loop_300
                    · replace h := h.2 (k_nle rfl rfl c8)
                      refine lv_aload_n hx hb dX14_loop_273 rfl (lv_at hl 0 rfl) ?_
                      refine va_get (D := rD g) (ci := 13) (v := .ref (ad 58)) (C := RX14) (T := TX14) (N := 143) hx hb hts in2X14 hown hR.K hR.P 0 (hR.at14 hR.w.1) rfl 116 (by decide) (hts _ kx_688) (fun _ h9 => h9) (congrArg (fun z => some (vf ad z)) (hR.w.2.1 _ fin_116).1) dX14_loop_274 ?_
                      refine lv_iload hx hb dX14_loop_277 (lv_at hl 1 rfl) ?_
                      obtain ⟨hv9, h⟩ := h
                      refine va_zald hx hb hR.K hR.P 58 2 (hR.atZ (hR.w.2.1 _ fin_116).2.1) rfl (k_ixN (k_ix (n := 1200) (x := v264_4) (a := v264_4.toInt) rfl hv9) (hR.w.2.1 _ fin_116).2.2) dX14_loop_279 ?_
                      refine lv_topi (fun z10 ez10 => ?_)
                      obtain rfl : z10 = (qI U264 58 v264_4.toInt.toNat) := ez10
                      have J_294 : ∀ (U294 : MS) (v294_4 : Int32) (H : Heap) (locs : List Loc) (ls : Array Slot), w_loop_J294 Q (w_loop_L264 Q n264) U294 v294_4 → shy S U294 → Rep g ad A s U294 H locs → lv_has ls 6 [(0, .ref (ad 0)), (4, .int v294_4)] → W p l e (headSpec (wt2 yX14_loop cX14_loop 6 none) ({ frames := 1, cells := 0, slots := 0, locals := 22 })).room s m ([.ref (ad 0), .int x1] : List Value).toArray below meth c H locs 0 0 (MQ below (va_Qv (fun (u : MS) => Q u ∧ wfM u ∧ shy S u) (fun (u : MS) (t : State) => qE g ad A u t) A) ([.ref (ad 0), .int x1] : List Value).toArray s 0 0 A) (F0 m 294 ls []) := by
                        intro U294 v294_4 H locs ls h hsh hR hl
                        unfold w_loop_J294 at h
                        obtain ⟨a11, ea11⟩ : ∃ z, z = (v294_4 + Int32.ofInt 1) := ⟨_, rfl⟩
                        replace h := h a11 ea11
                        refine lv_iinc (v := a11) (lv' := [(4, .int a11), (0, .ref (ad 0))]) hx hb dX14_loop_294 hl (k := 1) rfl ea11.symm (by decide) rfl (fun ls hl => ?_)
                        refine lv_goto (tgt := 264) hx hb dX14_loop_297 (by decide) ?_
                        exact ih_264 U294 a11 _ _ ls h  hsh hR (lv_sub hl [1, 0] rfl)
                      refine lv_if_eq (tgt := 294) hx hb dX14_loop_280 (by decide) (fun c12 => ?_) (fun c12 => ?_)
                      · replace h := h.1 (k_eq rfl (by decide) c12)
                        exact J_294 U264 v264_4 _ _ ls h  hsh hR (lv_sub hl [0, 1] rfl)
                      · replace h := h.2 (k_ne rfl (by decide) c12)
                        refine lv_aload_n hx hb dX14_loop_283 rfl (lv_at hl 0 rfl) ?_
                        refine va_get (D := rD g) (ci := 13) (v := .ref (ad 57)) (C := RX14) (T := TX14) (N := 143) hx hb hts in2X14 hown hR.K hR.P 0 (hR.at14 hR.w.1) rfl 115 (by decide) (hts _ kx_689) (fun _ h9 => h9) (congrArg (fun z => some (vf ad z)) (hR.w.2.1 _ fin_115).1) dX14_loop_284 ?_
                        refine lv_iload hx hb dX14_loop_287 (lv_at hl 1 rfl) ?_
                        refine lv_dup2_11 hx hb dX14_loop_289 rfl rfl ?_
                        obtain ⟨hv13, h⟩ := h
                        refine va_iald hx hb hR.K hR.P 57 1 (hR.atI (hR.w.2.1 _ fin_115).2.1) rfl (k_ixN (k_ix (n := 1200) (x := v264_4) (a := v264_4.toInt) rfl hv13) (hR.w.2.1 _ fin_115).2.2) dX14_loop_290 ?_
                        refine lv_topi (fun z14 ez14 => ?_)
                        obtain rfl : z14 = (qI U264 57 v264_4.toInt.toNat) := ez14
                        refine lv_iconst (v := 1) hx hb dX14_loop_291 (by decide) ?_
                        refine lv_iadd hx hb dX14_loop_292 ?_
                        refine lv_topi (fun z15 ez15 => ?_)
                        obtain rfl : z15 = ((qI U264 57 v264_4.toInt.toNat) + (1 : Int32)) := ez15
                        obtain ⟨hv16, h⟩ := h
                        refine va_iast hx hb hR.K hR.P hR.D hR.sS 57 1 (hR.atI (hR.w.2.1 _ fin_115).2.1) rfl (k_ixN (k_ix (n := 1200) (x := v264_4) (a := v264_4.toInt) rfl hv16) (hR.w.2.1 _ fin_115).2.2) dX14_loop_293 (fun H locs hP hD hS => ?_)
                        have hR : Rep g ad A s (wI U264 57 v264_4.toInt.toNat ((qI U264 57 v264_4.toInt.toNat) + (1 : Int32))) H locs := hR.aI (hR.w.2.1 _ fin_115).2.1 hP hD hS
                        obtain ⟨S17, eS17⟩ : ∃ z, z = wI U264 57 v264_4.toInt.toNat ((qI U264 57 v264_4.toInt.toNat) + (1 : Int32)) := ⟨_, rfl⟩
                        rw [← eS17] at hR
                        replace h := h S17 eS17
                        have hsh : shy S S17 := by rw [eS17]; exact hsh
                        exact J_294 S17 v264_4 _ _ ls h  hsh hR (lv_sub hl [0, 1] rfl)
                obtain ⟨n9, h⟩ := h
                exact J_264 n9 U128 0 _ _ ls h  hsh hR (lv_sub hl [1, 0] rfl)
              · replace h := h.2 (k_ne rfl (by decide) c7)
                refine lv_iconst (v := 0) hx hb dX14_loop_132 (by decide) ?_
                refine lv_istore_n (lv' := [(3, .int 0), (0, .ref (ad 0)), (1, .int v128_1)]) hx hb dX14_loop_133 rfl hl (by decide) rfl (fun ls hl => ?_)
                refine lv_iconst (v := 0) hx hb dX14_loop_134 (by decide) ?_
                refine lv_istore (lv' := [(4, .int 0), (3, .int 0), (0, .ref (ad 0)), (1, .int v128_1)]) hx hb dX14_loop_135 hl (by decide) rfl (fun ls hl => ?_)
                have J_137 : ∀ (n137 : Nat) (U137 : MS) (v137_1 : Int32) (v137_3 : Int32) (v137_4 : Int32) (H : Heap) (locs : List Loc) (ls : Array Slot), w_loop_L137 Q (w_loop_L128 Q n128) n137 U137 v137_1 v137_3 v137_4 → shy S U137 → Rep g ad A s U137 H locs → lv_has ls 6 [(0, .ref (ad 0)), (1, .int v137_1), (3, .int v137_3), (4, .int v137_4)] → W p l e (headSpec (wt2 yX14_loop cX14_loop 6 none) ({ frames := 1, cells := 0, slots := 0, locals := 22 })).room s m ([.ref (ad 0), .int x1] : List Value).toArray below meth c H locs 0 0 (MQ below (va_Qv (fun (u : MS) => Q u ∧ wfM u ∧ shy S u) (fun (u : MS) (t : State) => qE g ad A u t) A) ([.ref (ad 0), .int x1] : List Value).toArray s 0 0 A) (F0 m 137 ls []) := by
                  intro n137
                  induction n137 with
                  | zero => intro U137 v137_1 v137_3 v137_4 H locs ls h hsh hR hl; unfold w_loop_L137 at h; exact h.elim
                  | succ n137 ih_137 =>
                    intro U137 v137_1 v137_3 v137_4 H locs ls h hsh hR hl
                    unfold w_loop_L137 at h
                    refine lv_iload hx hb dX14_loop_137 (lv_at hl 3 rfl) ?_
                    refine lv_aload_n hx hb dX14_loop_139 rfl (lv_at hl 0 rfl) ?_
                    refine va_get (D := rD g) (ci := 13) (v := .int (qI U137 0 105)) (C := RX14) (T := TX14) (N := 143) hx hb hts in2X14 hown hR.K hR.P 0 (hR.at14 hR.w.1) rfl 105 (by decide) (hts _ kx_670) (fun _ h9 => h9) rfl dX14_loop_140 ?_
                    refine lv_icmp_ge (tgt := 258) hx hb dX14_loop_143 (by decide) (fun c18 => ?_) (fun c18 => ?_)
                    · replace h := h.1 (k_le rfl rfl c18)
                      refine lv_goto (tgt := 128) hx hb dX14_loop_258 (by decide) ?_
                      exact ih_128 U137 v137_1 v137_3 _ _ ls h  hsh hR (lv_sub hl [0, 1, 2] rfl)
                    · replace h := h.2 (k_nle rfl rfl c18)
                      refine lv_aload_n hx hb dX14_loop_146 rfl (lv_at hl 0 rfl) ?_
                      refine va_get (D := rD g) (ci := 13) (v := .ref (ad 58)) (C := RX14) (T := TX14) (N := 143) hx hb hts in2X14 hown hR.K hR.P 0 (hR.at14 hR.w.1) rfl 116 (by decide) (hts _ kx_688) (fun _ h9 => h9) (congrArg (fun z => some (vf ad z)) (hR.w.2.1 _ fin_116).1) dX14_loop_147 ?_
                      refine lv_iload hx hb dX14_loop_150 (lv_at hl 3 rfl) ?_
                      obtain ⟨hv19, h⟩ := h
                      refine va_zald hx hb hR.K hR.P 58 2 (hR.atZ (hR.w.2.1 _ fin_116).2.1) rfl (k_ixN (k_ix (n := 1200) (x := v137_4) (a := v137_4.toInt) rfl hv19) (hR.w.2.1 _ fin_116).2.2) dX14_loop_152 ?_
                      refine lv_topi (fun z20 ez20 => ?_)
                      obtain rfl : z20 = (qI U137 58 v137_4.toInt.toNat) := ez20
                      have J_252 : ∀ (U252 : MS) (v252_1 : Int32) (v252_3 : Int32) (v252_4 : Int32) (H : Heap) (locs : List Loc) (ls : Array Slot), w_loop_J252 Q (w_loop_L137 Q (w_loop_L128 Q n128) n137) U252 v252_1 v252_3 v252_4 → shy S U252 → Rep g ad A s U252 H locs → lv_has ls 6 [(0, .ref (ad 0)), (1, .int v252_1), (3, .int v252_3), (4, .int v252_4)] → W p l e (headSpec (wt2 yX14_loop cX14_loop 6 none) ({ frames := 1, cells := 0, slots := 0, locals := 22 })).room s m ([.ref (ad 0), .int x1] : List Value).toArray below meth c H locs 0 0 (MQ below (va_Qv (fun (u : MS) => Q u ∧ wfM u ∧ shy S u) (fun (u : MS) (t : State) => qE g ad A u t) A) ([.ref (ad 0), .int x1] : List Value).toArray s 0 0 A) (F0 m 252 ls []) := by
                        intro U252 v252_1 v252_3 v252_4 H locs ls h hsh hR hl
                        unfold w_loop_J252 at h
                        obtain ⟨a21, ea21⟩ : ∃ z, z = (v252_4 + Int32.ofInt 1) := ⟨_, rfl⟩
                        replace h := h a21 ea21
                        refine lv_iinc (v := a21) (lv' := [(4, .int a21), (0, .ref (ad 0)), (1, .int v252_1), (3, .int v252_3)]) hx hb dX14_loop_252 hl (k := 3) rfl ea21.symm (by decide) rfl (fun ls hl => ?_)
                        refine lv_goto (tgt := 137) hx hb dX14_loop_255 (by decide) ?_
                        exact ih_137 U252 v252_1 v252_3 a21 _ _ ls h  hsh hR (lv_sub hl [1, 2, 3, 0] rfl)
                      refine lv_if_ne (tgt := 252) hx hb dX14_loop_153 (by decide) (fun c22 => ?_) (fun c22 => ?_)
                      · replace h := h.2 (k_ne rfl (by decide) c22)
                        exact J_252 U137 v137_1 v137_3 v137_4 _ _ ls h  hsh hR (lv_sub hl [0, 1, 2, 3] rfl)
                      · replace h := h.1 (k_eq rfl (by decide) c22)
                        refine lv_aload_n hx hb dX14_loop_156 rfl (lv_at hl 0 rfl) ?_
                        refine va_get (D := rD g) (ci := 13) (v := .ref (ad 53)) (C := RX14) (T := TX14) (N := 143) hx hb hts in2X14 hown hR.K hR.P 0 (hR.at14 hR.w.1) rfl 111 (by decide) (hts _ kx_679) (fun _ h9 => h9) (congrArg (fun z => some (vf ad z)) (hR.w.2.1 _ fin_111).1) dX14_loop_157 ?_
                        refine lv_iload hx hb dX14_loop_160 (lv_at hl 3 rfl) ?_
                        obtain ⟨hv23, h⟩ := h
                        refine va_zald hx hb hR.K hR.P 53 2 (hR.atZ (hR.w.2.1 _ fin_111).2.1) rfl (k_ixN (k_ix (n := 1200) (x := v137_4) (a := v137_4.toInt) rfl hv23) (hR.w.2.1 _ fin_111).2.2) dX14_loop_162 ?_
                        refine lv_topi (fun z24 ez24 => ?_)
                        obtain rfl : z24 = (qI U137 53 v137_4.toInt.toNat) := ez24
                        refine lv_if_ne (tgt := 169) hx hb dX14_loop_163 (by decide) (fun c25 => ?_) (fun c25 => ?_)
                        · replace h := h.2 (k_ne rfl (by decide) c25)
                          refine lv_aload_n hx hb dX14_loop_169 rfl (lv_at hl 0 rfl) ?_
                          refine va_get (D := rD g) (ci := 13) (v := .ref (ad 51)) (C := RX14) (T := TX14) (N := 143) hx hb hts in2X14 hown hR.K hR.P 0 (hR.at14 hR.w.1) rfl 108 (by decide) (hts _ kx_672) (fun _ h9 => h9) (congrArg (fun z => some (vf ad z)) (hR.w.2.1 _ fin_108).1) dX14_loop_170 ?_
                          refine lv_iload hx hb dX14_loop_173 (lv_at hl 3 rfl) ?_
                          obtain ⟨hv26, h⟩ := h
                          refine va_iald hx hb hR.K hR.P 51 1 (hR.atI (hR.w.2.1 _ fin_108).2.1) rfl (k_ixN (k_ix (n := 1202) (x := v137_4) (a := v137_4.toInt) rfl hv26) (hR.w.2.1 _ fin_108).2.2) dX14_loop_175 ?_
                          refine lv_topi (fun z27 ez27 => ?_)
                          obtain rfl : z27 = (qI U137 51 v137_4.toInt.toNat) := ez27
                          obtain ⟨a28, ea28⟩ : ∃ z, z = (qI U137 51 v137_4.toInt.toNat) := ⟨_, rfl⟩
                          rw [← ea28]
                          replace h := h a28 ea28
                          refine lv_istore (lv' := [(5, .int a28), (0, .ref (ad 0)), (1, .int v137_1), (3, .int v137_3), (4, .int v137_4)]) hx hb dX14_loop_176 hl (by decide) rfl (fun ls hl => ?_)
                          have J_178 : ∀ (n178 : Nat) (U178 : MS) (v178_1 : Int32) (v178_3 : Int32) (v178_4 : Int32) (v178_5 : Int32) (H : Heap) (locs : List Loc) (ls : Array Slot), w_loop_L178 Q (w_loop_L137 Q (w_loop_L128 Q n128) n137) n178 U178 v178_1 v178_3 v178_4 v178_5 → shy S U178 → Rep g ad A s U178 H locs → lv_has ls 6 [(0, .ref (ad 0)), (1, .int v178_1), (3, .int v178_3), (4, .int v178_4), (5, .int v178_5)] → W p l e (headSpec (wt2 yX14_loop cX14_loop 6 none) ({ frames := 1, cells := 0, slots := 0, locals := 22 })).room s m ([.ref (ad 0), .int x1] : List Value).toArray below meth c H locs 0 0 (MQ below (va_Qv (fun (u : MS) => Q u ∧ wfM u ∧ shy S u) (fun (u : MS) (t : State) => qE g ad A u t) A) ([.ref (ad 0), .int x1] : List Value).toArray s 0 0 A) (F0 m 178 ls []) := by
                            intro n178
                            induction n178 with
                            | zero => intro U178 v178_1 v178_3 v178_4 v178_5 H locs ls h hsh hR hl; unfold w_loop_L178 at h; exact h.elim
                            | succ n178 ih_178 =>
                              intro U178 v178_1 v178_3 v178_4 v178_5 H locs ls h hsh hR hl
                              unfold w_loop_L178 at h
                              refine lv_iload hx hb dX14_loop_178 (lv_at hl 4 rfl) ?_
                              refine lv_aload_n hx hb dX14_loop_180 rfl (lv_at hl 0 rfl) ?_
                              refine va_get (D := rD g) (ci := 13) (v := .ref (ad 51)) (C := RX14) (T := TX14) (N := 143) hx hb hts in2X14 hown hR.K hR.P 0 (hR.at14 hR.w.1) rfl 108 (by decide) (hts _ kx_672) (fun _ h9 => h9) (congrArg (fun z => some (vf ad z)) (hR.w.2.1 _ fin_108).1) dX14_loop_181 ?_
                              refine lv_iload hx hb dX14_loop_184 (lv_at hl 3 rfl) ?_
                              refine lv_iconst (v := 1) hx hb dX14_loop_186 (by decide) ?_
                              refine lv_iadd hx hb dX14_loop_187 ?_
                              refine lv_topi (fun z29 ez29 => ?_)
                              obtain rfl : z29 = (v178_4 + (1 : Int32)) := ez29
                              obtain ⟨hv30, h⟩ := h
                              refine va_iald hx hb hR.K hR.P 51 1 (hR.atI (hR.w.2.1 _ fin_108).2.1) rfl (k_ixN (k_ix (n := 1202) (x := (v178_4 + (1 : Int32))) (a := (v178_4 + (1 : Int32)).toInt) rfl hv30) (hR.w.2.1 _ fin_108).2.2) dX14_loop_188 ?_
                              refine lv_topi (fun z31 ez31 => ?_)
                              obtain rfl : z31 = (qI U178 51 (((v178_4 + (1 : Int32)).toInt).toNat)) := ez31
                              refine lv_icmp_ge (tgt := 232) hx hb dX14_loop_189 (by decide) (fun c32 => ?_) (fun c32 => ?_)
                              · replace h := h.1 (k_le rfl rfl c32)
                                refine lv_iload_n hx hb dX14_loop_232 rfl (lv_at hl 2 rfl) ?_
                                have J_251 : ∀ (U251 : MS) (t251_0 : Int32) (v251_1 : Int32) (v251_4 : Int32) (H : Heap) (locs : List Loc) (ls : Array Slot), w_loop_J251 Q (w_loop_L137 Q (w_loop_L128 Q n128) n137) U251 t251_0 v251_1 v251_4 → (t251_0 = 0 ∨ t251_0 = 1) → shy S U251 → Rep g ad A s U251 H locs → lv_has ls 6 [(0, .ref (ad 0)), (1, .int v251_1), (4, .int v251_4)] → W p l e (headSpec (wt2 yX14_loop cX14_loop 6 none) ({ frames := 1, cells := 0, slots := 0, locals := 22 })).room s m ([.ref (ad 0), .int x1] : List Value).toArray below meth c H locs 0 0 (MQ below (va_Qv (fun (u : MS) => Q u ∧ wfM u ∧ shy S u) (fun (u : MS) (t : State) => qE g ad A u t) A) ([.ref (ad 0), .int x1] : List Value).toArray s 0 0 A) (F0 m 251 ls [.int t251_0]) := by
                                  intro U251 t251_0 v251_1 v251_4 H locs ls h hz_t251_0 hsh hR hl
                                  unfold w_loop_J251 at h
                                  refine lv_istore_n (lv' := [(3, .int t251_0), (0, .ref (ad 0)), (1, .int v251_1), (4, .int v251_4)]) hx hb dX14_loop_251 rfl hl (by decide) rfl (fun ls hl => ?_)
                                  exact J_252 U251 v251_1 t251_0 v251_4 _ _ ls h  hsh hR (lv_sub hl [1, 2, 0, 3] rfl)
                                have J_246 : ∀ (U246 : MS) (v246_1 : Int32) (v246_4 : Int32) (H : Heap) (locs : List Loc) (ls : Array Slot), w_loop_J246 Q (w_loop_L137 Q (w_loop_L128 Q n128) n137) U246 v246_1 v246_4 → shy S U246 → Rep g ad A s U246 H locs → lv_has ls 6 [(0, .ref (ad 0)), (1, .int v246_1), (4, .int v246_4)] → W p l e (headSpec (wt2 yX14_loop cX14_loop 6 none) ({ frames := 1, cells := 0, slots := 0, locals := 22 })).room s m ([.ref (ad 0), .int x1] : List Value).toArray below meth c H locs 0 0 (MQ below (va_Qv (fun (u : MS) => Q u ∧ wfM u ∧ shy S u) (fun (u : MS) (t : State) => qE g ad A u t) A) ([.ref (ad 0), .int x1] : List Value).toArray s 0 0 A) (F0 m 246 ls []) := by
                                  intro U246 v246_1 v246_4 H locs ls h hsh hR hl
                                  unfold w_loop_J246 at h
                                  refine lv_iconst (v := 1) hx hb dX14_loop_246 (by decide) ?_
                                  refine lv_goto (tgt := 251) hx hb dX14_loop_247 (by decide) ?_
                                  exact J_251 U246 1 v246_1 v246_4 _ _ ls h (Or.inr rfl) hsh hR (lv_sub hl [0, 1, 2] rfl)
                                refine lv_if_ne (tgt := 246) hx hb dX14_loop_233 (by decide) (fun c33 => ?_) (fun c33 => ?_)
                                · replace h := h.2 (k_ne rfl (by decide) c33)
                                  exact J_246 U178 v178_1 v178_4 _ _ ls h  hsh hR (lv_sub hl [0, 1, 3] rfl)
                                · replace h := h.1 (k_eq rfl (by decide) c33)
                                  refine lv_aload_n hx hb dX14_loop_236 rfl (lv_at hl 0 rfl) ?_
                                  refine va_get (D := rD g) (ci := 13) (v := .ref (ad 58)) (C := RX14) (T := TX14) (N := 143) hx hb hts in2X14 hown hR.K hR.P 0 (hR.at14 hR.w.1) rfl 116 (by decide) (hts _ kx_688) (fun _ h9 => h9) (congrArg (fun z => some (vf ad z)) (hR.w.2.1 _ fin_116).1) dX14_loop_237 ?_
                                  refine lv_iload hx hb dX14_loop_240 (lv_at hl 3 rfl) ?_
                                  obtain ⟨hv34, h⟩ := h
                                  refine va_zald hx hb hR.K hR.P 58 2 (hR.atZ (hR.w.2.1 _ fin_116).2.1) rfl (k_ixN (k_ix (n := 1200) (x := v178_4) (a := v178_4.toInt) rfl hv34) (hR.w.2.1 _ fin_116).2.2) dX14_loop_242 ?_
                                  refine lv_topi (fun z35 ez35 => ?_)
                                  obtain rfl : z35 = (qI U178 58 v178_4.toInt.toNat) := ez35
                                  refine lv_if_eq (tgt := 250) hx hb dX14_loop_243 (by decide) (fun c36 => ?_) (fun c36 => ?_)
                                  · replace h := h.1 (k_eq rfl (by decide) c36)
                                    refine lv_iconst (v := 0) hx hb dX14_loop_250 (by decide) ?_
                                    exact J_251 U178 0 v178_1 v178_4 _ _ ls h (Or.inl rfl) hsh hR (lv_sub hl [0, 1, 3] rfl)
                                  · replace h := h.2 (k_ne rfl (by decide) c36)
                                    exact J_246 U178 v178_1 v178_4 _ _ ls h  hsh hR (lv_sub hl [0, 1, 3] rfl)
                              · replace h := h.2 (k_nle rfl rfl c32)
                                refine lv_aload_n hx hb dX14_loop_192 rfl (lv_at hl 0 rfl) ?_
                                refine va_get (D := rD g) (ci := 13) (v := .ref (ad 58)) (C := RX14) (T := TX14) (N := 143) hx hb hts in2X14 hown hR.K hR.P 0 (hR.at14 hR.w.1) rfl 116 (by decide) (hts _ kx_688) (fun _ h9 => h9) (congrArg (fun z => some (vf ad z)) (hR.w.2.1 _ fin_116).1) dX14_loop_193 ?_
                                refine lv_aload_n hx hb dX14_loop_196 rfl (lv_at hl 0 rfl) ?_
                                refine va_get (D := rD g) (ci := 13) (v := .ref (ad 52)) (C := RX14) (T := TX14) (N := 143) hx hb hts in2X14 hown hR.K hR.P 0 (hR.at14 hR.w.1) rfl 109 (by decide) (hts _ kx_674) (fun _ h9 => h9) (congrArg (fun z => some (vf ad z)) (hR.w.2.1 _ fin_109).1) dX14_loop_197 ?_
                                refine lv_iload hx hb dX14_loop_200 (lv_at hl 4 rfl) ?_
                                obtain ⟨hv37, h⟩ := h
                                refine va_iald hx hb hR.K hR.P 52 1 (hR.atI (hR.w.2.1 _ fin_109).2.1) rfl (k_ixN (k_ix (n := 24000) (x := v178_5) (a := v178_5.toInt) rfl hv37) (hR.w.2.1 _ fin_109).2.2) dX14_loop_202 ?_
                                refine lv_topi (fun z38 ez38 => ?_)
                                obtain rfl : z38 = (qI U178 52 v178_5.toInt.toNat) := ez38
                                obtain ⟨hv39, h⟩ := h
                                refine va_zald hx hb hR.K hR.P 58 2 (hR.atZ (hR.w.2.1 _ fin_116).2.1) rfl (k_ixN (k_ix (n := 1200) (x := (qI U178 52 v178_5.toInt.toNat)) (a := (qI U178 52 v178_5.toInt.toNat).toInt) rfl hv39) (hR.w.2.1 _ fin_116).2.2) dX14_loop_203 ?_
                                refine lv_topi (fun z40 ez40 => ?_)
                                obtain rfl : z40 = (qI U178 58 (((qI U178 52 v178_5.toInt.toNat).toInt).toNat)) := ez40
                                have J_226 : ∀ (U226 : MS) (v226_1 : Int32) (v226_3 : Int32) (v226_4 : Int32) (v226_5 : Int32) (H : Heap) (locs : List Loc) (ls : Array Slot), w_loop_J226 Q (w_loop_L178 Q (w_loop_L137 Q (w_loop_L128 Q n128) n137) n178) U226 v226_1 v226_3 v226_4 v226_5 → shy S U226 → Rep g ad A s U226 H locs → lv_has ls 6 [(0, .ref (ad 0)), (1, .int v226_1), (3, .int v226_3), (4, .int v226_4), (5, .int v226_5)] → W p l e (headSpec (wt2 yX14_loop cX14_loop 6 none) ({ frames := 1, cells := 0, slots := 0, locals := 22 })).room s m ([.ref (ad 0), .int x1] : List Value).toArray below meth c H locs 0 0 (MQ below (va_Qv (fun (u : MS) => Q u ∧ wfM u ∧ shy S u) (fun (u : MS) (t : State) => qE g ad A u t) A) ([.ref (ad 0), .int x1] : List Value).toArray s 0 0 A) (F0 m 226 ls []) := by
                                  intro U226 v226_1 v226_3 v226_4 v226_5 H locs ls h hsh hR hl
                                  unfold w_loop_J226 at h
                                  obtain ⟨a41, ea41⟩ : ∃ z, z = (v226_5 + Int32.ofInt 1) := ⟨_, rfl⟩
                                  replace h := h a41 ea41
                                  refine lv_iinc (v := a41) (lv' := [(5, .int a41), (0, .ref (ad 0)), (1, .int v226_1), (3, .int v226_3), (4, .int v226_4)]) hx hb dX14_loop_226 hl (k := 4) rfl ea41.symm (by decide) rfl (fun ls hl => ?_)
                                  refine lv_goto (tgt := 178) hx hb dX14_loop_229 (by decide) ?_
                                  exact ih_178 U226 v226_1 v226_3 v226_4 a41 _ _ ls h  hsh hR (lv_sub hl [1, 2, 3, 4, 0] rfl)
                                refine lv_if_eq (tgt := 226) hx hb dX14_loop_204 (by decide) (fun c42 => ?_) (fun c42 => ?_)
                                · replace h := h.1 (k_eq rfl (by decide) c42)
                                  exact J_226 U178 v178_1 v178_3 v178_4 v178_5 _ _ ls h  hsh hR (lv_sub hl [0, 1, 2, 3, 4] rfl)
                                · replace h := h.2 (k_ne rfl (by decide) c42)
                                  refine lv_aload_n hx hb dX14_loop_207 rfl (lv_at hl 0 rfl) ?_
                                  refine va_get (D := rD g) (ci := 13) (v := .ref (ad 52)) (C := RX14) (T := TX14) (N := 143) hx hb hts in2X14 hown hR.K hR.P 0 (hR.at14 hR.w.1) rfl 109 (by decide) (hts _ kx_674) (fun _ h9 => h9) (congrArg (fun z => some (vf ad z)) (hR.w.2.1 _ fin_109).1) dX14_loop_208 ?_
                                  refine lv_iload hx hb dX14_loop_211 (lv_at hl 4 rfl) ?_
                                  obtain ⟨hv43, h⟩ := h
                                  refine va_iald hx hb hR.K hR.P 52 1 (hR.atI (hR.w.2.1 _ fin_109).2.1) rfl (k_ixN (k_ix (n := 24000) (x := v178_5) (a := v178_5.toInt) rfl hv43) (hR.w.2.1 _ fin_109).2.2) dX14_loop_213 ?_
                                  refine lv_topi (fun z44 ez44 => ?_)
                                  obtain rfl : z44 = (qI U178 52 v178_5.toInt.toNat) := ez44
                                  refine lv_iload_n hx hb dX14_loop_214 rfl (lv_at hl 1 rfl) ?_
                                  refine lv_icmp_eq (tgt := 226) hx hb dX14_loop_215 (by decide) (fun c45 => ?_) (fun c45 => ?_)
                                  · replace h := h.1 (k_eq rfl rfl c45)
                                    exact J_226 U178 v178_1 v178_3 v178_4 v178_5 _ _ ls h  hsh hR (lv_sub hl [0, 1, 2, 3, 4] rfl)
                                  · replace h := h.2 (k_ne rfl rfl c45)
                                    refine lv_aload_n hx hb dX14_loop_218 rfl (lv_at hl 0 rfl) ?_
                                    refine va_get (D := rD g) (ci := 13) (v := .ref (ad 58)) (C := RX14) (T := TX14) (N := 143) hx hb hts in2X14 hown hR.K hR.P 0 (hR.at14 hR.w.1) rfl 116 (by decide) (hts _ kx_688) (fun _ h9 => h9) (congrArg (fun z => some (vf ad z)) (hR.w.2.1 _ fin_116).1) dX14_loop_219 ?_
                                    refine lv_iload hx hb dX14_loop_222 (lv_at hl 3 rfl) ?_
                                    refine lv_iconst (v := 1) hx hb dX14_loop_224 (by decide) ?_
                                    obtain ⟨hv46, h⟩ := h
                                    refine va_zast hx hb hR.K hR.P hR.D hR.sS 58 2 (hR.atZ (hR.w.2.1 _ fin_116).2.1) rfl (k_ixN (k_ix (n := 1200) (x := v178_4) (a := v178_4.toInt) rfl hv46) (hR.w.2.1 _ fin_116).2.2) dX14_loop_225 (fun H locs hP hD hS => ?_)
                                    have hR : Rep g ad A s (wI U178 58 v178_4.toInt.toNat (vp_nar .boolean (1 : Int32))) H locs := hR.aZ (hR.w.2.1 _ fin_116).2.1 hP hD hS
                                    obtain ⟨S47, eS47⟩ : ∃ z, z = wI U178 58 v178_4.toInt.toNat (vp_nar .boolean (1 : Int32)) := ⟨_, rfl⟩
                                    rw [← eS47] at hR
                                    replace h := h S47 eS47
                                    have hsh : shy S S47 := by rw [eS47]; exact hsh
                                    exact J_226 S47 v178_1 v178_3 v178_4 v178_5 _ _ ls h  hsh hR (lv_sub hl [0, 1, 2, 3, 4] rfl)
                          obtain ⟨n9, h⟩ := h
                          exact J_178 n9 U137 v137_1 v137_3 v137_4 a28 _ _ ls h  hsh hR (lv_sub hl [1, 2, 3, 4, 0] rfl)
                        · replace h := h.1 (k_eq rfl (by decide) c25)
                          refine lv_goto (tgt := 252) hx hb dX14_loop_166 (by decide) ?_
                          exact J_252 U137 v137_1 v137_3 v137_4 _ _ ls h  hsh hR (lv_sub hl [0, 1, 2, 3] rfl)
                obtain ⟨n9, h⟩ := h
                exact J_137 n9 U128 v128_1 0 0 _ _ ls h  hsh hR (lv_sub hl [2, 3, 1, 0] rfl)
          obtain ⟨n9, h⟩ := h
          exact J_128 n9 S6 v4_1 1 _ _ ls h  hsh hR (lv_sub hl [1, 2, 0] rfl)
        · replace h := h.1 (k_eq rfl (by decide) c2)
          exact W.vret hx hb hr (fun t9 ht9 hW9 => ⟨⟨U4, rfl, ⟨h, hR.w, hsh⟩, ⟨by rw [ht9]; exact hR.P, hR.D⟩⟩, hR.sS.F ht9⟩) hR.sS.2.2 dX14_loop_111
      · replace h := h.2 (k_nle rfl rfl c1)
        refine lv_aload_n hx hb dX14_loop_12 rfl (lv_at hl 0 rfl) ?_
        refine va_get (D := rD g) (ci := 13) (v := .ref (ad 58)) (C := RX14) (T := TX14) (N := 143) hx hb hts in2X14 hown hR.K hR.P 0 (hR.at14 hR.w.1) rfl 116 (by decide) (hts _ kx_688) (fun _ h9 => h9) (congrArg (fun z => some (vf ad z)) (hR.w.2.1 _ fin_116).1) dX14_loop_13 ?_
        refine lv_iload_n hx hb dX14_loop_16 rfl (lv_at hl 3 rfl) ?_
        refine lv_iconst (v := 0) hx hb dX14_loop_17 (by decide) ?_
        obtain ⟨hv48, h⟩ := h
        refine va_zast hx hb hR.K hR.P hR.D hR.sS 58 2 (hR.atZ (hR.w.2.1 _ fin_116).2.1) rfl (k_ixN (k_ix (n := 1200) (x := v4_3) (a := v4_3.toInt) rfl hv48) (hR.w.2.1 _ fin_116).2.2) dX14_loop_18 (fun H locs hP hD hS => ?_)
        have hR : Rep g ad A s (wI U4 58 v4_3.toInt.toNat (vp_nar .boolean (0 : Int32))) H locs := hR.aZ (hR.w.2.1 _ fin_116).2.1 hP hD hS
        obtain ⟨S49, eS49⟩ : ∃ z, z = wI U4 58 v4_3.toInt.toNat (vp_nar .boolean (0 : Int32)) := ⟨_, rfl⟩
        rw [← eS49] at hR
        replace h := h S49 eS49
        have hsh : shy S S49 := by rw [eS49]; exact hsh
        refine lv_aload_n hx hb dX14_loop_19 rfl (lv_at hl 0 rfl) ?_
        refine va_get (D := rD g) (ci := 13) (v := .ref (ad 51)) (C := RX14) (T := TX14) (N := 143) hx hb hts in2X14 hown hR.K hR.P 0 (hR.at14 hR.w.1) rfl 108 (by decide) (hts _ kx_672) (fun _ h9 => h9) (congrArg (fun z => some (vf ad z)) (hR.w.2.1 _ fin_108).1) dX14_loop_20 ?_
        refine lv_iload_n hx hb dX14_loop_23 rfl (lv_at hl 3 rfl) ?_
        obtain ⟨hv50, h⟩ := h
        refine va_iald hx hb hR.K hR.P 51 1 (hR.atI (hR.w.2.1 _ fin_108).2.1) rfl (k_ixN (k_ix (n := 1202) (x := v4_3) (a := v4_3.toInt) rfl hv50) (hR.w.2.1 _ fin_108).2.2) dX14_loop_24 ?_
        refine lv_topi (fun z51 ez51 => ?_)
        obtain rfl : z51 = (qI S49 51 v4_3.toInt.toNat) := ez51
        obtain ⟨a52, ea52⟩ : ∃ z, z = (qI S49 51 v4_3.toInt.toNat) := ⟨_, rfl⟩
        rw [← ea52]
        replace h := h a52 ea52
        refine lv_istore (lv' := [(4, .int a52), (0, .ref (ad 0)), (1, .int v4_1), (2, .int v4_2), (3, .int v4_3)]) hx hb dX14_loop_25 hl (by decide) rfl (fun ls hl => ?_)
        have J_27 : ∀ (n27 : Nat) (U27 : MS) (v27_1 : Int32) (v27_2 : Int32) (v27_3 : Int32) (v27_4 : Int32) (H : Heap) (locs : List Loc) (ls : Array Slot), w_loop_L27 Q (w_loop_L4 Q n4) n27 U27 v27_1 v27_2 v27_3 v27_4 → (v27_2 = 0 ∨ v27_2 = 1) → shy S U27 → Rep g ad A s U27 H locs → lv_has ls 6 [(0, .ref (ad 0)), (1, .int v27_1), (2, .int v27_2), (3, .int v27_3), (4, .int v27_4)] → W p l e (headSpec (wt2 yX14_loop cX14_loop 6 none) ({ frames := 1, cells := 0, slots := 0, locals := 22 })).room s m ([.ref (ad 0), .int x1] : List Value).toArray below meth c H locs 0 0 (MQ below (va_Qv (fun (u : MS) => Q u ∧ wfM u ∧ shy S u) (fun (u : MS) (t : State) => qE g ad A u t) A) ([.ref (ad 0), .int x1] : List Value).toArray s 0 0 A) (F0 m 27 ls []) := by
          intro n27
          induction n27 with
          | zero => intro U27 v27_1 v27_2 v27_3 v27_4 H locs ls h hz_v27_2 hsh hR hl; unfold w_loop_L27 at h; exact h.elim
          | succ n27 ih_27 =>
            intro U27 v27_1 v27_2 v27_3 v27_4 H locs ls h hz_v27_2 hsh hR hl
            unfold w_loop_L27 at h
            refine lv_aload_n hx hb dX14_loop_27 rfl (lv_at hl 0 rfl) ?_
            refine va_get (D := rD g) (ci := 13) (v := .ref (ad 53)) (C := RX14) (T := TX14) (N := 143) hx hb hts in2X14 hown hR.K hR.P 0 (hR.at14 hR.w.1) rfl 111 (by decide) (hts _ kx_679) (fun _ h9 => h9) (congrArg (fun z => some (vf ad z)) (hR.w.2.1 _ fin_111).1) dX14_loop_28 ?_
            refine lv_iload_n hx hb dX14_loop_31 rfl (lv_at hl 3 rfl) ?_
            obtain ⟨hv53, h⟩ := h
            refine va_zald hx hb hR.K hR.P 53 2 (hR.atZ (hR.w.2.1 _ fin_111).2.1) rfl (k_ixN (k_ix (n := 1200) (x := v27_3) (a := v27_3.toInt) rfl hv53) (hR.w.2.1 _ fin_111).2.2) dX14_loop_32 ?_
            refine lv_topi (fun z54 ez54 => ?_)
            obtain rfl : z54 = (qI U27 53 v27_3.toInt.toNat) := ez54
            have J_82 : ∀ (U82 : MS) (v82_1 : Int32) (v82_2 : Int32) (v82_3 : Int32) (H : Heap) (locs : List Loc) (ls : Array Slot), w_loop_J82 Q (w_loop_L4 Q n4) U82 v82_1 v82_2 v82_3 → (v82_2 = 0 ∨ v82_2 = 1) → shy S U82 → Rep g ad A s U82 H locs → lv_has ls 6 [(0, .ref (ad 0)), (1, .int v82_1), (2, .int v82_2), (3, .int v82_3)] → W p l e (headSpec (wt2 yX14_loop cX14_loop 6 none) ({ frames := 1, cells := 0, slots := 0, locals := 22 })).room s m ([.ref (ad 0), .int x1] : List Value).toArray below meth c H locs 0 0 (MQ below (va_Qv (fun (u : MS) => Q u ∧ wfM u ∧ shy S u) (fun (u : MS) (t : State) => qE g ad A u t) A) ([.ref (ad 0), .int x1] : List Value).toArray s 0 0 A) (F0 m 82 ls []) := by
              intro U82 v82_1 v82_2 v82_3 H locs ls h hz_v82_2 hsh hR hl
              unfold w_loop_J82 at h
              refine lv_iload_n hx hb dX14_loop_82 rfl (lv_at hl 2 rfl) ?_
              have J_100 : ∀ (U100 : MS) (t100_0 : Int32) (v100_1 : Int32) (v100_3 : Int32) (H : Heap) (locs : List Loc) (ls : Array Slot), w_loop_J100 Q (w_loop_L4 Q n4) U100 t100_0 v100_1 v100_3 → (t100_0 = 0 ∨ t100_0 = 1) → shy S U100 → Rep g ad A s U100 H locs → lv_has ls 6 [(0, .ref (ad 0)), (1, .int v100_1), (3, .int v100_3)] → W p l e (headSpec (wt2 yX14_loop cX14_loop 6 none) ({ frames := 1, cells := 0, slots := 0, locals := 22 })).room s m ([.ref (ad 0), .int x1] : List Value).toArray below meth c H locs 0 0 (MQ below (va_Qv (fun (u : MS) => Q u ∧ wfM u ∧ shy S u) (fun (u : MS) (t : State) => qE g ad A u t) A) ([.ref (ad 0), .int x1] : List Value).toArray s 0 0 A) (F0 m 100 ls [.int t100_0]) := by
                intro U100 t100_0 v100_1 v100_3 H locs ls h hz_t100_0 hsh hR hl
                unfold w_loop_J100 at h
                refine lv_istore_n (lv' := [(2, .int t100_0), (0, .ref (ad 0)), (1, .int v100_1), (3, .int v100_3)]) hx hb dX14_loop_100 rfl hl (by decide) rfl (fun ls hl => ?_)
                obtain ⟨a55, ea55⟩ : ∃ z, z = (v100_3 + Int32.ofInt 1) := ⟨_, rfl⟩
                replace h := h a55 ea55
                refine lv_iinc (v := a55) (lv' := [(3, .int a55), (2, .int t100_0), (0, .ref (ad 0)), (1, .int v100_1)]) hx hb dX14_loop_101 hl (k := 3) rfl ea55.symm (by decide) rfl (fun ls hl => ?_)
                refine lv_goto (tgt := 4) hx hb dX14_loop_104 (by decide) ?_
                exact ih_4 U100 v100_1 t100_0 a55 _ _ ls h hz_t100_0 hsh hR (lv_sub hl [2, 3, 1, 0] rfl)
              have J_95 : ∀ (U95 : MS) (v95_1 : Int32) (v95_3 : Int32) (H : Heap) (locs : List Loc) (ls : Array Slot), w_loop_J95 Q (w_loop_L4 Q n4) U95 v95_1 v95_3 → shy S U95 → Rep g ad A s U95 H locs → lv_has ls 6 [(0, .ref (ad 0)), (1, .int v95_1), (3, .int v95_3)] → W p l e (headSpec (wt2 yX14_loop cX14_loop 6 none) ({ frames := 1, cells := 0, slots := 0, locals := 22 })).room s m ([.ref (ad 0), .int x1] : List Value).toArray below meth c H locs 0 0 (MQ below (va_Qv (fun (u : MS) => Q u ∧ wfM u ∧ shy S u) (fun (u : MS) (t : State) => qE g ad A u t) A) ([.ref (ad 0), .int x1] : List Value).toArray s 0 0 A) (F0 m 95 ls []) := by
                intro U95 v95_1 v95_3 H locs ls h hsh hR hl
                unfold w_loop_J95 at h
                refine lv_iconst (v := 1) hx hb dX14_loop_95 (by decide) ?_
                refine lv_goto (tgt := 100) hx hb dX14_loop_96 (by decide) ?_
                exact J_100 U95 1 v95_1 v95_3 _ _ ls h (Or.inr rfl) hsh hR (lv_sub hl [0, 1, 2] rfl)
              refine lv_if_ne (tgt := 95) hx hb dX14_loop_83 (by decide) (fun c56 => ?_) (fun c56 => ?_)
              · replace h := h.2 (k_ne rfl (by decide) c56)
                exact J_95 U82 v82_1 v82_3 _ _ ls h  hsh hR (lv_sub hl [0, 1, 3] rfl)
              · replace h := h.1 (k_eq rfl (by decide) c56)
                refine lv_aload_n hx hb dX14_loop_86 rfl (lv_at hl 0 rfl) ?_
                refine va_get (D := rD g) (ci := 13) (v := .ref (ad 58)) (C := RX14) (T := TX14) (N := 143) hx hb hts in2X14 hown hR.K hR.P 0 (hR.at14 hR.w.1) rfl 116 (by decide) (hts _ kx_688) (fun _ h9 => h9) (congrArg (fun z => some (vf ad z)) (hR.w.2.1 _ fin_116).1) dX14_loop_87 ?_
                refine lv_iload_n hx hb dX14_loop_90 rfl (lv_at hl 3 rfl) ?_
                obtain ⟨hv57, h⟩ := h
                refine va_zald hx hb hR.K hR.P 58 2 (hR.atZ (hR.w.2.1 _ fin_116).2.1) rfl (k_ixN (k_ix (n := 1200) (x := v82_3) (a := v82_3.toInt) rfl hv57) (hR.w.2.1 _ fin_116).2.2) dX14_loop_91 ?_
                refine lv_topi (fun z58 ez58 => ?_)
                obtain rfl : z58 = (qI U82 58 v82_3.toInt.toNat) := ez58
                refine lv_if_eq (tgt := 99) hx hb dX14_loop_92 (by decide) (fun c59 => ?_) (fun c59 => ?_)
                · replace h := h.1 (k_eq rfl (by decide) c59)
                  refine lv_iconst (v := 0) hx hb dX14_loop_99 (by decide) ?_
                  exact J_100 U82 0 v82_1 v82_3 _ _ ls h (Or.inl rfl) hsh hR (lv_sub hl [0, 1, 3] rfl)
                · replace h := h.2 (k_ne rfl (by decide) c59)
                  exact J_95 U82 v82_1 v82_3 _ _ ls h  hsh hR (lv_sub hl [0, 1, 3] rfl)
            refine lv_if_eq (tgt := 82) hx hb dX14_loop_33 (by decide) (fun c60 => ?_) (fun c60 => ?_)
            · replace h := h.1 (k_eq rfl (by decide) c60)
              exact J_82 U27 v27_1 v27_2 v27_3 _ _ ls h hz_v27_2 hsh hR (lv_sub hl [0, 1, 2, 3] rfl)
            · replace h := h.2 (k_ne rfl (by decide) c60)
              refine lv_iload hx hb dX14_loop_36 (lv_at hl 4 rfl) ?_
              refine lv_aload_n hx hb dX14_loop_38 rfl (lv_at hl 0 rfl) ?_
              refine va_get (D := rD g) (ci := 13) (v := .ref (ad 51)) (C := RX14) (T := TX14) (N := 143) hx hb hts in2X14 hown hR.K hR.P 0 (hR.at14 hR.w.1) rfl 108 (by decide) (hts _ kx_672) (fun _ h9 => h9) (congrArg (fun z => some (vf ad z)) (hR.w.2.1 _ fin_108).1) dX14_loop_39 ?_
              refine lv_iload_n hx hb dX14_loop_42 rfl (lv_at hl 3 rfl) ?_
              refine lv_iconst (v := 1) hx hb dX14_loop_43 (by decide) ?_
              refine lv_iadd hx hb dX14_loop_44 ?_
              refine lv_topi (fun z61 ez61 => ?_)
              obtain rfl : z61 = (v27_3 + (1 : Int32)) := ez61
              obtain ⟨hv62, h⟩ := h
              refine va_iald hx hb hR.K hR.P 51 1 (hR.atI (hR.w.2.1 _ fin_108).2.1) rfl (k_ixN (k_ix (n := 1202) (x := (v27_3 + (1 : Int32))) (a := (v27_3 + (1 : Int32)).toInt) rfl hv62) (hR.w.2.1 _ fin_108).2.2) dX14_loop_45 ?_
              refine lv_topi (fun z63 ez63 => ?_)
              obtain rfl : z63 = (qI U27 51 (((v27_3 + (1 : Int32)).toInt).toNat)) := ez63
              refine lv_icmp_ge (tgt := 82) hx hb dX14_loop_46 (by decide) (fun c64 => ?_) (fun c64 => ?_)
              · replace h := h.1 (k_le rfl rfl c64)
                exact J_82 U27 v27_1 v27_2 v27_3 _ _ ls h hz_v27_2 hsh hR (lv_sub hl [0, 1, 2, 3] rfl)
              · replace h := h.2 (k_nle rfl rfl c64)
                refine lv_aload_n hx hb dX14_loop_49 rfl (lv_at hl 0 rfl) ?_
                refine va_get (D := rD g) (ci := 13) (v := .ref (ad 52)) (C := RX14) (T := TX14) (N := 143) hx hb hts in2X14 hown hR.K hR.P 0 (hR.at14 hR.w.1) rfl 109 (by decide) (hts _ kx_674) (fun _ h9 => h9) (congrArg (fun z => some (vf ad z)) (hR.w.2.1 _ fin_109).1) dX14_loop_50 ?_
                refine lv_iload hx hb dX14_loop_53 (lv_at hl 4 rfl) ?_
                obtain ⟨hv65, h⟩ := h
                refine va_iald hx hb hR.K hR.P 52 1 (hR.atI (hR.w.2.1 _ fin_109).2.1) rfl (k_ixN (k_ix (n := 24000) (x := v27_4) (a := v27_4.toInt) rfl hv65) (hR.w.2.1 _ fin_109).2.2) dX14_loop_55 ?_
                refine lv_topi (fun z66 ez66 => ?_)
                obtain rfl : z66 = (qI U27 52 v27_4.toInt.toNat) := ez66
                refine lv_iload_n hx hb dX14_loop_56 rfl (lv_at hl 1 rfl) ?_
                have J_76 : ∀ (U76 : MS) (v76_1 : Int32) (v76_2 : Int32) (v76_3 : Int32) (v76_4 : Int32) (H : Heap) (locs : List Loc) (ls : Array Slot), w_loop_J76 Q (w_loop_L27 Q (w_loop_L4 Q n4) n27) U76 v76_1 v76_2 v76_3 v76_4 → (v76_2 = 0 ∨ v76_2 = 1) → shy S U76 → Rep g ad A s U76 H locs → lv_has ls 6 [(0, .ref (ad 0)), (1, .int v76_1), (2, .int v76_2), (3, .int v76_3), (4, .int v76_4)] → W p l e (headSpec (wt2 yX14_loop cX14_loop 6 none) ({ frames := 1, cells := 0, slots := 0, locals := 22 })).room s m ([.ref (ad 0), .int x1] : List Value).toArray below meth c H locs 0 0 (MQ below (va_Qv (fun (u : MS) => Q u ∧ wfM u ∧ shy S u) (fun (u : MS) (t : State) => qE g ad A u t) A) ([.ref (ad 0), .int x1] : List Value).toArray s 0 0 A) (F0 m 76 ls []) := by
                  intro U76 v76_1 v76_2 v76_3 v76_4 H locs ls h hz_v76_2 hsh hR hl
                  unfold w_loop_J76 at h
                  obtain ⟨a67, ea67⟩ : ∃ z, z = (v76_4 + Int32.ofInt 1) := ⟨_, rfl⟩
                  replace h := h a67 ea67
                  refine lv_iinc (v := a67) (lv' := [(4, .int a67), (0, .ref (ad 0)), (1, .int v76_1), (2, .int v76_2), (3, .int v76_3)]) hx hb dX14_loop_76 hl (k := 4) rfl ea67.symm (by decide) rfl (fun ls hl => ?_)
                  refine lv_goto (tgt := 27) hx hb dX14_loop_79 (by decide) ?_
                  exact ih_27 U76 v76_1 v76_2 v76_3 a67 _ _ ls h hz_v76_2 hsh hR (lv_sub hl [1, 2, 3, 4, 0] rfl)
                refine lv_icmp_ne (tgt := 76) hx hb dX14_loop_57 (by decide) (fun c68 => ?_) (fun c68 => ?_)
                · replace h := h.2 (k_ne rfl rfl c68)
                  exact J_76 U27 v27_1 v27_2 v27_3 v27_4 _ _ ls h hz_v27_2 hsh hR (lv_sub hl [0, 1, 2, 3, 4] rfl)
                · replace h := h.1 (k_eq rfl rfl c68)
                  refine lv_aload_n hx hb dX14_loop_60 rfl (lv_at hl 0 rfl) ?_
                  refine lv_iload_n hx hb dX14_loop_61 rfl (lv_at hl 1 rfl) ?_
                  refine lv_iload_n hx hb dX14_loop_62 rfl (lv_at hl 3 rfl) ?_
                  obtain ⟨hv69, h⟩ := h
                  have hFc := rfree hR hA
                  refine va_calli (va_runV (As := [.int v27_1, .int v27_3]) (rest := []) ⟨hx, hb, hml, hown, hts⟩ (r_dominates l g ad H.size U27 v27_1 v27_3 hR.w  hv69) (cwV 2 hts (gd2_V kx_682 kx_683 kx_684 kx_177 kx_685) rfl rfl rfl (by decide +kernel) ⟨Nat.le_of_ble_eq_true rfl, Nat.le_of_ble_eq_true rfl⟩) ⟨rblind, va_recv hR.K hR.P (ci := 13) (q0 := 0) rfl (hR.at14 hR.w.1), fun U hU hW9 => rmk hU hW9 hR hex hE hFc⟩ rfl rfl hl.1 rfl (lv_room (Nat.le_of_ble_eq_true rfl)) dX14_loop_63 ⟨Nat.le_of_ble_eq_true rfl, Nat.le_of_ble_eq_true rfl⟩) hR.sS (fun q _ h => hFc q h) hFc (fun r70 u9 t9 H1 locs ht9 hvm9 hw9 hB9 hz9 hk9 hS => ?_)
                  have hR : Rep g ad A s U27 H1 locs := hR.call ht9 hB9 hR.w hS hFc
                  obtain ⟨rfl, hz_r70⟩ := hw9
                  clear hB9 hz9 hk9 hvm9 ht9 hS
                  generalize H1 = H at hR ⊢
                  refine lv_if_eq (tgt := 76) hx hb dX14_loop_66 (by decide) (fun c72 => ?_) (fun c72 => ?_)
                  · replace h := h.1 (k_eq rfl (by decide) c72)
                    exact J_76 U27 v27_1 v27_2 v27_3 v27_4 _ _ ls h hz_v27_2 hsh hR (lv_sub hl [0, 1, 2, 3, 4] rfl)
                  · replace h := h.2 (k_ne rfl (by decide) c72)
                    refine lv_aload_n hx hb dX14_loop_69 rfl (lv_at hl 0 rfl) ?_
                    refine va_get (D := rD g) (ci := 13) (v := .ref (ad 58)) (C := RX14) (T := TX14) (N := 143) hx hb hts in2X14 hown hR.K hR.P 0 (hR.at14 hR.w.1) rfl 116 (by decide) (hts _ kx_688) (fun _ h9 => h9) (congrArg (fun z => some (vf ad z)) (hR.w.2.1 _ fin_116).1) dX14_loop_70 ?_
                    refine lv_iload_n hx hb dX14_loop_73 rfl (lv_at hl 3 rfl) ?_
                    refine lv_iconst (v := 1) hx hb dX14_loop_74 (by decide) ?_
                    obtain ⟨hv73, h⟩ := h
                    refine va_zast hx hb hR.K hR.P hR.D hR.sS 58 2 (hR.atZ (hR.w.2.1 _ fin_116).2.1) rfl (k_ixN (k_ix (n := 1200) (x := v27_3) (a := v27_3.toInt) rfl hv73) (hR.w.2.1 _ fin_116).2.2) dX14_loop_75 (fun H locs hP hD hS => ?_)
                    have hR : Rep g ad A s (wI U27 58 v27_3.toInt.toNat (vp_nar .boolean (1 : Int32))) H locs := hR.aZ (hR.w.2.1 _ fin_116).2.1 hP hD hS
                    obtain ⟨S74, eS74⟩ : ∃ z, z = wI U27 58 v27_3.toInt.toNat (vp_nar .boolean (1 : Int32)) := ⟨_, rfl⟩
                    rw [← eS74] at hR
                    replace h := h S74 eS74
                    have hsh : shy S S74 := by rw [eS74]; exact hsh
                    exact J_76 S74 v27_1 v27_2 v27_3 v27_4 _ _ ls h hz_v27_2 hsh hR (lv_sub hl [0, 1, 2, 3, 4] rfl)
        obtain ⟨n9, h⟩ := h
        exact J_27 n9 S49 v4_1 v4_2 v4_3 a52 _ _ ls h hz_v4_2 hsh hR (lv_sub hl [1, 2, 3, 4, 0] rfl)
  obtain ⟨n9, h⟩ := h
  exact J_4 n9 S x1 0 0 _ _ ls h (Or.inl rfl) hsh hR (lv_sub hl [2, 3, 1, 0] rfl)
def w_here_L2 (Q : Int32 → MS → Prop) : Nat → MS → Int32 → Prop
  | 0, _, _ => False
  | n2 + 1, U2, v2_2 => (((qI U2 0 129).toInt ≤ v2_2.toInt → Q v2_2 U2) ∧ (¬ (qI U2 0 129).toInt ≤ v2_2.toInt → (((0 : Int) ≤ v2_2.toInt ∧ v2_2.toInt < 1200) ∧ (((qI U2 81 v2_2.toInt.toNat).toInt = 0 → Q v2_2 U2) ∧ (¬ (qI U2 81 v2_2.toInt.toNat).toInt = 0 → (∀ a5 : Int32, a5 = (v2_2 + Int32.ofInt 1) → (w_here_L2 Q n2) U2 a5))))))
def w_here (S : MS) (x1 : Int32) (Q : Int32 → MS → Prop) : Prop := (∃ n, w_here_L2 Q n S x1)
set_option maxHeartbeats 2000000 in
set_option maxRecDepth 100000 in
theorem r_here (l : Launch) (g : Gr) (ad : Nat → Nat) (sz : Nat) (S : MS) (x1 : Int32) (hw : wfM S) (Q : Int32 → MS → Prop) (h : w_here S x1 Q) : Met l yX14_here (wt2 yX14_here cX14_here 3 (some .int)) ({ frames := 0, cells := 0, slots := 0, locals := 0 }) (va_Pc [.ref (ad 0), .int x1] (st_R g ad sz S)) (va_Qi (fun (r : Int32) (u : MS) => Q r u ∧ wfM u ∧ shy S u) (fun (u : MS) (t : State) => qE g ad (va_A (Wd g ad S) sz) u t) (va_A (Wd g ad S) sz)) 0 0 (va_A (Wd g ad S) sz) := by
  refine Met.ofW (cc := cX14_here) (maxL := 3) (ret := (some .int)) (by decide) rfl ?_
  intro p e s m args below meth c s₁ B hml hv
  obtain ⟨rfl, hsz, hP, hK, hD0, hex, hE⟩ := hv
  have hx := B.exec
  have hb := B.bytes
  have hr := B.returns
  have hts0 := atoms_spec (ws := wt2 yX14_here cX14_here 3 (some .int)) B.pre
  have hts : ∀ w ∈ tb2, w.before _ s = true := fun w h => hts0 w (List.mem_cons_of_mem _ h)
  have hown : s.vm.findClass RX14 = some m.cls := findClass_of_methodNamed B.named
  subst hsz
  have hD := hD0.self (sz := s.heap.size)
  generalize hAe : va_A (Wd g ad S) s.heap.size = A at hD hE ⊢
  have hA : ∀ q : Nat, s.heap.size ≤ q → A q := fun q h => by rw [← hAe]; exact Or.inr h
  have hR : Rep g ad A s S s.heap [] := ⟨hK, hP, hD, va_S.rf, hw⟩
  clear hK hP hD hD0
  have hl := lv_entry ([.ref (ad 0), .int x1]) (n := 3) (Nat.le_of_ble_eq_true rfl)
  rw [lg_entry_eq]
  generalize (lg_sl ([.ref (ad 0), .int x1]) ++ List.replicate (3 - (lg_sl ([.ref (ad 0), .int x1])).length) Slot.unset).toArray = ls at hl ⊢
  have hl : lv_has ls 3 [(0, .ref (ad 0)), (1, .int x1)] := hl
  have hsh : shy S S := shy.rf
  unfold w_here at h
  refine lv_iload_n hx hb dX14_here_0 rfl (lv_at hl 1 rfl) ?_
  refine lv_istore_n (lv' := [(2, .int x1), (0, .ref (ad 0)), (1, .int x1)]) hx hb dX14_here_1 rfl hl (by decide) rfl (fun ls hl => ?_)
  have J_2 : ∀ (n2 : Nat) (U2 : MS) (v2_2 : Int32) (H : Heap) (locs : List Loc) (ls : Array Slot), w_here_L2 Q n2 U2 v2_2 → shy S U2 → Rep g ad A s U2 H locs → lv_has ls 3 [(0, .ref (ad 0)), (2, .int v2_2)] → W p l e (headSpec (wt2 yX14_here cX14_here 3 (some .int)) ({ frames := 0, cells := 0, slots := 0, locals := 0 })).room s m ([.ref (ad 0), .int x1] : List Value).toArray below meth c H locs 0 0 (MQ below (va_Qi (fun (r : Int32) (u : MS) => Q r u ∧ wfM u ∧ shy S u) (fun (u : MS) (t : State) => qE g ad A u t) A) ([.ref (ad 0), .int x1] : List Value).toArray s 0 0 A) (F0 m 2 ls []) := by
    intro n2
    induction n2 with
    | zero => intro U2 v2_2 H locs ls h hsh hR hl; unfold w_here_L2 at h; exact h.elim
    | succ n2 ih_2 =>
      intro U2 v2_2 H locs ls h hsh hR hl
      unfold w_here_L2 at h
      refine lv_iload_n hx hb dX14_here_2 rfl (lv_at hl 1 rfl) ?_
      refine lv_aload_n hx hb dX14_here_3 rfl (lv_at hl 0 rfl) ?_
      refine va_get (D := rD g) (ci := 13) (v := .int (qI U2 0 129)) (C := RX14) (T := TX14) (N := 143) hx hb hts in2X14 hown hR.K hR.P 0 (hR.at14 hR.w.1) rfl 129 (by decide) (hts _ kx_691) (fun _ h9 => h9) rfl dX14_here_4 ?_
      refine lv_icmp_ge (tgt := 25) hx hb dX14_here_7 (by decide) (fun c1 => ?_) (fun c1 => ?_)
      · replace h := h.1 (k_le rfl rfl c1)
        refine lv_iload_n hx hb dX14_here_25 rfl (lv_at hl 1 rfl) ?_
        exact W.iret (v := v2_2) hx hb hr (fun t9 ht9 hW9 => ⟨⟨_, U2, rfl, ⟨h, hR.w, hsh⟩, ⟨by rw [ht9]; exact hR.P, hR.D⟩⟩, hR.sS.F ht9⟩) hR.sS.2.2 dX14_here_26
      · replace h := h.2 (k_nle rfl rfl c1)
        refine lv_aload_n hx hb dX14_here_10 rfl (lv_at hl 0 rfl) ?_
        refine va_get (D := rD g) (ci := 13) (v := .ref (ad 81)) (C := RX14) (T := TX14) (N := 143) hx hb hts in2X14 hown hR.K hR.P 0 (hR.at14 hR.w.1) rfl 128 (by decide) (hts _ kx_692) (fun _ h9 => h9) (congrArg (fun z => some (vf ad z)) (hR.w.2.1 _ fin_128).1) dX14_here_11 ?_
        refine lv_iload_n hx hb dX14_here_14 rfl (lv_at hl 1 rfl) ?_
        obtain ⟨hv2, h⟩ := h
        refine va_zald hx hb hR.K hR.P 81 2 (hR.atZ (hR.w.2.1 _ fin_128).2.1) rfl (k_ixN (k_ix (n := 1200) (x := v2_2) (a := v2_2.toInt) rfl hv2) (hR.w.2.1 _ fin_128).2.2) dX14_here_15 ?_
        refine lv_topi (fun z3 ez3 => ?_)
        obtain rfl : z3 = (qI U2 81 v2_2.toInt.toNat) := ez3
        refine lv_if_eq (tgt := 25) hx hb dX14_here_16 (by decide) (fun c4 => ?_) (fun c4 => ?_)
        · replace h := h.1 (k_eq rfl (by decide) c4)
          refine lv_iload_n hx hb dX14_here_25 rfl (lv_at hl 1 rfl) ?_
          exact W.iret (v := v2_2) hx hb hr (fun t9 ht9 hW9 => ⟨⟨_, U2, rfl, ⟨h, hR.w, hsh⟩, ⟨by rw [ht9]; exact hR.P, hR.D⟩⟩, hR.sS.F ht9⟩) hR.sS.2.2 dX14_here_26
        · replace h := h.2 (k_ne rfl (by decide) c4)
          obtain ⟨a5, ea5⟩ : ∃ z, z = (v2_2 + Int32.ofInt 1) := ⟨_, rfl⟩
          replace h := h a5 ea5
          refine lv_iinc (v := a5) (lv' := [(2, .int a5), (0, .ref (ad 0))]) hx hb dX14_here_19 hl (k := 1) rfl ea5.symm (by decide) rfl (fun ls hl => ?_)
          refine lv_goto (tgt := 2) hx hb dX14_here_22 (by decide) ?_
          exact ih_2 U2 a5 _ _ ls h  hsh hR (lv_sub hl [1, 0] rfl)
  obtain ⟨n9, h⟩ := h
  exact J_2 n9 S x1 _ _ ls h  hsh hR (lv_sub hl [1, 0] rfl)
def w_behind (S : MS) (x1 : Int32) (Q : Int32 → MS → Prop) : Prop := (∃ Q2, w_here S (x1 + (1 : Int32)) Q2 ∧ ∀ r3 S4, Q2 r3 S4 → Q r3 S4)
set_option maxHeartbeats 2000000 in
set_option maxRecDepth 100000 in
theorem r_behind (l : Launch) (g : Gr) (ad : Nat → Nat) (sz : Nat) (S : MS) (x1 : Int32) (hw : wfM S) (Q : Int32 → MS → Prop) (h : w_behind S x1 Q) : Met l yX14_behind (wt2 yX14_behind cX14_behind 2 (some .int)) ({ frames := 1, cells := 0, slots := 0, locals := 22 }) (va_Pc [.ref (ad 0), .int x1] (st_R g ad sz S)) (va_Qi (fun (r : Int32) (u : MS) => Q r u ∧ wfM u ∧ shy S u) (fun (u : MS) (t : State) => qE g ad (va_A (Wd g ad S) sz) u t) (va_A (Wd g ad S) sz)) 0 0 (va_A (Wd g ad S) sz) := by
  refine Met.ofW (cc := cX14_behind) (maxL := 2) (ret := (some .int)) (by decide) rfl ?_
  intro p e s m args below meth c s₁ B hml hv
  obtain ⟨rfl, hsz, hP, hK, hD0, hex, hE⟩ := hv
  have hx := B.exec
  have hb := B.bytes
  have hr := B.returns
  have hts0 := atoms_spec (ws := wt2 yX14_behind cX14_behind 2 (some .int)) B.pre
  have hts : ∀ w ∈ tb2, w.before _ s = true := fun w h => hts0 w (List.mem_cons_of_mem _ h)
  have hown : s.vm.findClass RX14 = some m.cls := findClass_of_methodNamed B.named
  subst hsz
  have hD := hD0.self (sz := s.heap.size)
  generalize hAe : va_A (Wd g ad S) s.heap.size = A at hD hE ⊢
  have hA : ∀ q : Nat, s.heap.size ≤ q → A q := fun q h => by rw [← hAe]; exact Or.inr h
  have hR : Rep g ad A s S s.heap [] := ⟨hK, hP, hD, va_S.rf, hw⟩
  clear hK hP hD hD0
  have hl := lv_entry ([.ref (ad 0), .int x1]) (n := 2) (Nat.le_of_ble_eq_true rfl)
  rw [lg_entry_eq]
  generalize (lg_sl ([.ref (ad 0), .int x1]) ++ List.replicate (2 - (lg_sl ([.ref (ad 0), .int x1])).length) Slot.unset).toArray = ls at hl ⊢
  have hl : lv_has ls 2 [(0, .ref (ad 0)), (1, .int x1)] := hl
  have hsh : shy S S := shy.rf
  unfold w_behind at h
  refine lv_aload_n hx hb dX14_behind_0 rfl (lv_at hl 0 rfl) ?_
  refine lv_iload_n hx hb dX14_behind_1 rfl (lv_at hl 1 rfl) ?_
  refine lv_iconst (v := 1) hx hb dX14_behind_2 (by decide) ?_
  refine lv_iadd hx hb dX14_behind_3 ?_
  refine lv_topi (fun z1 ez1 => ?_)
  obtain rfl : z1 = (x1 + (1 : Int32)) := ez1
  obtain ⟨Q2, h0, h⟩ := h
  have hFc := rfree hR hA
  refine va_calli (va_runV (As := [.int (x1 + (1 : Int32))]) (rest := []) ⟨hx, hb, hml, hown, hts⟩ (r_here l g ad s.heap.size S (x1 + (1 : Int32)) hR.w  Q2 h0) (cwV 1 hts (gd2_V kx_693 kx_694 kx_695 kx_177 kx_696) rfl rfl rfl (by decide +kernel) ⟨Nat.le_of_ble_eq_true rfl, Nat.le_of_ble_eq_true rfl⟩) ⟨rblind, va_recv hR.K hR.P (ci := 13) (q0 := 0) rfl (hR.at14 hR.w.1), fun U hU hW9 => rmk hU hW9 hR hex hE hFc⟩ rfl rfl hl.1 rfl (lv_room (Nat.le_of_ble_eq_true rfl)) dX14_behind_4 ⟨Nat.le_of_ble_eq_true rfl, Nat.le_of_ble_eq_true rfl⟩) hR.sS (fun q _ h => hFc q h) hFc (fun r3 S4 t9 H1 locs ht9 hvm9 hw9 hB9 hz9 hk9 hS => ?_)
  obtain ⟨hq5, hw9, hs9⟩ := hw9
  have hR : Rep g ad A s S4 H1 locs := hR.call ht9 hB9 hw9 hS hFc
  have hsh := hsh.tr hs9
  replace h := h r3 S4 hq5
  clear hB9 hz9 hk9 hvm9 ht9 hw9 hs9 hS
  generalize H1 = H at hR ⊢
  exact W.iret (v := r3) hx hb hr (fun t9 ht9 hW9 => ⟨⟨_, S4, rfl, ⟨h, hR.w, hsh⟩, ⟨by rw [ht9]; exact hR.P, hR.D⟩⟩, hR.sS.F ht9⟩) hR.sS.2.2 dX14_behind_7
def w_lastOne_L7 (Q : Int32 → MS → Prop) : Nat → MS → Int32 → Prop
  | 0, _, _ => False
  | n7 + 1, U7, v7_1 => (((0 : Int) ≤ v7_1.toInt ∧ v7_1.toInt < 1200) ∧ (((qI U7 81 v7_1.toInt.toNat).toInt = 0 → Q v7_1 U7) ∧ (¬ (qI U7 81 v7_1.toInt.toNat).toInt = 0 → (∀ a6 : Int32, a6 = (v7_1 + Int32.ofInt (-1)) → (w_lastOne_L7 Q n7) U7 a6))))
def w_lastOne (S : MS) (Q : Int32 → MS → Prop) : Prop := (∀ a2 : Int32, a2 = ((qI S 0 129) - (1 : Int32)) → (∃ n, w_lastOne_L7 Q n S a2))
set_option maxHeartbeats 2000000 in
set_option maxRecDepth 100000 in
theorem r_lastOne (l : Launch) (g : Gr) (ad : Nat → Nat) (sz : Nat) (S : MS) (hw : wfM S) (Q : Int32 → MS → Prop) (h : w_lastOne S Q) : Met l yX14_lastOne (wt2 yX14_lastOne cX14_lastOne 2 (some .int)) ({ frames := 0, cells := 0, slots := 0, locals := 0 }) (va_Pc [.ref (ad 0)] (st_R g ad sz S)) (va_Qi (fun (r : Int32) (u : MS) => Q r u ∧ wfM u ∧ shy S u) (fun (u : MS) (t : State) => qE g ad (va_A (Wd g ad S) sz) u t) (va_A (Wd g ad S) sz)) 0 0 (va_A (Wd g ad S) sz) := by
  refine Met.ofW (cc := cX14_lastOne) (maxL := 2) (ret := (some .int)) (by decide) rfl ?_
  intro p e s m args below meth c s₁ B hml hv
  obtain ⟨rfl, hsz, hP, hK, hD0, hex, hE⟩ := hv
  have hx := B.exec
  have hb := B.bytes
  have hr := B.returns
  have hts0 := atoms_spec (ws := wt2 yX14_lastOne cX14_lastOne 2 (some .int)) B.pre
  have hts : ∀ w ∈ tb2, w.before _ s = true := fun w h => hts0 w (List.mem_cons_of_mem _ h)
  have hown : s.vm.findClass RX14 = some m.cls := findClass_of_methodNamed B.named
  subst hsz
  have hD := hD0.self (sz := s.heap.size)
  generalize hAe : va_A (Wd g ad S) s.heap.size = A at hD hE ⊢
  have hA : ∀ q : Nat, s.heap.size ≤ q → A q := fun q h => by rw [← hAe]; exact Or.inr h
  have hR : Rep g ad A s S s.heap [] := ⟨hK, hP, hD, va_S.rf, hw⟩
  clear hK hP hD hD0
  have hl := lv_entry ([.ref (ad 0)]) (n := 2) (Nat.le_of_ble_eq_true rfl)
  rw [lg_entry_eq]
  generalize (lg_sl ([.ref (ad 0)]) ++ List.replicate (2 - (lg_sl ([.ref (ad 0)])).length) Slot.unset).toArray = ls at hl ⊢
  have hl : lv_has ls 2 [(0, .ref (ad 0))] := hl
  have hsh : shy S S := shy.rf
  unfold w_lastOne at h
  refine lv_aload_n hx hb dX14_lastOne_0 rfl (lv_at hl 0 rfl) ?_
  refine va_get (D := rD g) (ci := 13) (v := .int (qI S 0 129)) (C := RX14) (T := TX14) (N := 143) hx hb hts in2X14 hown hR.K hR.P 0 (hR.at14 hR.w.1) rfl 129 (by decide) (hts _ kx_691) (fun _ h9 => h9) rfl dX14_lastOne_1 ?_
  refine lv_iconst (v := 1) hx hb dX14_lastOne_4 (by decide) ?_
  refine lv_isub hx hb dX14_lastOne_5 ?_
  refine lv_topi (fun z1 ez1 => ?_)
  obtain rfl : z1 = ((qI S 0 129) - (1 : Int32)) := ez1
  obtain ⟨a2, ea2⟩ : ∃ z, z = ((qI S 0 129) - (1 : Int32)) := ⟨_, rfl⟩
  rw [← ea2]
  replace h := h a2 ea2
  refine lv_istore_n (lv' := [(1, .int a2), (0, .ref (ad 0))]) hx hb dX14_lastOne_6 rfl hl (by decide) rfl (fun ls hl => ?_)
  have J_7 : ∀ (n7 : Nat) (U7 : MS) (v7_1 : Int32) (H : Heap) (locs : List Loc) (ls : Array Slot), w_lastOne_L7 Q n7 U7 v7_1 → shy S U7 → Rep g ad A s U7 H locs → lv_has ls 2 [(0, .ref (ad 0)), (1, .int v7_1)] → W p l e (headSpec (wt2 yX14_lastOne cX14_lastOne 2 (some .int)) ({ frames := 0, cells := 0, slots := 0, locals := 0 })).room s m ([.ref (ad 0)] : List Value).toArray below meth c H locs 0 0 (MQ below (va_Qi (fun (r : Int32) (u : MS) => Q r u ∧ wfM u ∧ shy S u) (fun (u : MS) (t : State) => qE g ad A u t) A) ([.ref (ad 0)] : List Value).toArray s 0 0 A) (F0 m 7 ls []) := by
    intro n7
    induction n7 with
    | zero => intro U7 v7_1 H locs ls h hsh hR hl; unfold w_lastOne_L7 at h; exact h.elim
    | succ n7 ih_7 =>
      intro U7 v7_1 H locs ls h hsh hR hl
      unfold w_lastOne_L7 at h
      refine lv_aload_n hx hb dX14_lastOne_7 rfl (lv_at hl 0 rfl) ?_
      refine va_get (D := rD g) (ci := 13) (v := .ref (ad 81)) (C := RX14) (T := TX14) (N := 143) hx hb hts in2X14 hown hR.K hR.P 0 (hR.at14 hR.w.1) rfl 128 (by decide) (hts _ kx_692) (fun _ h9 => h9) (congrArg (fun z => some (vf ad z)) (hR.w.2.1 _ fin_128).1) dX14_lastOne_8 ?_
      refine lv_iload_n hx hb dX14_lastOne_11 rfl (lv_at hl 1 rfl) ?_
      obtain ⟨hv3, h⟩ := h
      refine va_zald hx hb hR.K hR.P 81 2 (hR.atZ (hR.w.2.1 _ fin_128).2.1) rfl (k_ixN (k_ix (n := 1200) (x := v7_1) (a := v7_1.toInt) rfl hv3) (hR.w.2.1 _ fin_128).2.2) dX14_lastOne_12 ?_
      refine lv_topi (fun z4 ez4 => ?_)
      obtain rfl : z4 = (qI U7 81 v7_1.toInt.toNat) := ez4
      refine lv_if_eq (tgt := 22) hx hb dX14_lastOne_13 (by decide) (fun c5 => ?_) (fun c5 => ?_)
      · replace h := h.1 (k_eq rfl (by decide) c5)
        refine lv_iload_n hx hb dX14_lastOne_22 rfl (lv_at hl 1 rfl) ?_
        exact W.iret (v := v7_1) hx hb hr (fun t9 ht9 hW9 => ⟨⟨_, U7, rfl, ⟨h, hR.w, hsh⟩, ⟨by rw [ht9]; exact hR.P, hR.D⟩⟩, hR.sS.F ht9⟩) hR.sS.2.2 dX14_lastOne_23
      · replace h := h.2 (k_ne rfl (by decide) c5)
        obtain ⟨a6, ea6⟩ : ∃ z, z = (v7_1 + Int32.ofInt (-1)) := ⟨_, rfl⟩
        replace h := h a6 ea6
        refine lv_iinc (v := a6) (lv' := [(1, .int a6), (0, .ref (ad 0))]) hx hb dX14_lastOne_16 hl (k := 1) rfl ea6.symm (by decide) rfl (fun ls hl => ?_)
        refine lv_goto (tgt := 7) hx hb dX14_lastOne_19 (by decide) ?_
        exact ih_7 U7 a6 _ _ ls h  hsh hR (lv_sub hl [1, 0] rfl)
  obtain ⟨n9, h⟩ := h
  exact J_7 n9 S a2 _ _ ls h  hsh hR (lv_sub hl [1, 0] rfl)
def f_waysOf (S : MS) (x1 : Int32) : Int32 := (if (f_isJump S (qI S 78 x1.toInt.toNat)).toInt = 0 then (if (f_isSwitch S (qI S 78 x1.toInt.toNat)).toInt = 0 then (0 : Int32) else ((qI S 80 x1.toInt.toNat) + (1 : Int32))) else (1 : Int32))
def d_waysOf (S : MS) (x1 : Int32) : Prop := (((0 : Int) ≤ x1.toInt ∧ x1.toInt < 1200) ∧ (d_isJump S (qI S 78 x1.toInt.toNat) ∧ (if (f_isJump S (qI S 78 x1.toInt.toNat)).toInt = 0 then (((0 : Int) ≤ x1.toInt ∧ x1.toInt < 1200) ∧ (d_isSwitch S (qI S 78 x1.toInt.toNat) ∧ (if (f_isSwitch S (qI S 78 x1.toInt.toNat)).toInt = 0 then True else (((0 : Int) ≤ x1.toInt ∧ x1.toInt < 1200) ∧ True)))) else True)))
set_option maxHeartbeats 2000000 in
set_option maxRecDepth 100000 in
theorem r_waysOf (l : Launch) (g : Gr) (ad : Nat → Nat) (sz : Nat) (S : MS) (x1 : Int32) (hw : wfM S) (hd : d_waysOf S x1) : Met l yX14_waysOf (wt2 yX14_waysOf cX14_waysOf 2 (some .int)) ({ frames := 1, cells := 0, slots := 0, locals := 20 }) (va_Pc [.ref (ad 0), .int x1] (st_R g ad sz S)) (va_Qi (fun (r : Int32) (_ : Unit) => r = f_waysOf S x1) (fun (_ : Unit) (t : State) => qE g ad (va_A (Wd g ad S) sz) S t) (va_A (Wd g ad S) sz)) 0 0 (va_A (Wd g ad S) sz) := by
  refine Met.ofW (cc := cX14_waysOf) (maxL := 2) (ret := (some .int)) (by decide) rfl ?_
  intro p e s m args below meth c s₁ B hml hv
  obtain ⟨rfl, hsz, hP, hK, hD0, hex, hE⟩ := hv
  have hx := B.exec
  have hb := B.bytes
  have hr := B.returns
  have hts0 := atoms_spec (ws := wt2 yX14_waysOf cX14_waysOf 2 (some .int)) B.pre
  have hts : ∀ w ∈ tb2, w.before _ s = true := fun w h => hts0 w (List.mem_cons_of_mem _ h)
  have hown : s.vm.findClass RX14 = some m.cls := findClass_of_methodNamed B.named
  subst hsz
  have hD := hD0.self (sz := s.heap.size)
  generalize hAe : va_A (Wd g ad S) s.heap.size = A at hD hE ⊢
  have hA : ∀ q : Nat, s.heap.size ≤ q → A q := fun q h => by rw [← hAe]; exact Or.inr h
  have hR : Rep g ad A s S s.heap [] := ⟨hK, hP, hD, va_S.rf, hw⟩
  clear hK hP hD hD0
  have hl := lv_entry ([.ref (ad 0), .int x1]) (n := 2) (Nat.le_of_ble_eq_true rfl)
  rw [lg_entry_eq]
  generalize (lg_sl ([.ref (ad 0), .int x1]) ++ List.replicate (2 - (lg_sl ([.ref (ad 0), .int x1])).length) Slot.unset).toArray = ls at hl ⊢
  have hl : lv_has ls 2 [(0, .ref (ad 0)), (1, .int x1)] := hl
  obtain ⟨r0, hf⟩ : ∃ r0, f_waysOf S x1 = r0 := ⟨_, rfl⟩
  have hf0 := hf
  unfold f_waysOf at hf
  unfold d_waysOf at hd
  refine lv_aload_n hx hb dX14_waysOf_0 rfl (lv_at hl 0 rfl) ?_
  refine va_get (D := rD g) (ci := 13) (v := .ref (ad 78)) (C := RX14) (T := TX14) (N := 143) hx hb hts in2X14 hown hR.K hR.P 0 (hR.at14 hR.w.1) rfl 125 (by decide) (hts _ kx_697) (fun _ h9 => h9) (congrArg (fun z => some (vf ad z)) (hR.w.2.1 _ fin_125).1) dX14_waysOf_1 ?_
  refine lv_iload_n hx hb dX14_waysOf_4 rfl (lv_at hl 1 rfl) ?_
  obtain ⟨hv1, hd⟩ := hd
  refine va_iald hx hb hR.K hR.P 78 1 (hR.atI (hR.w.2.1 _ fin_125).2.1) rfl (k_ixN (k_ix (n := 1200) (x := x1) (a := x1.toInt) rfl hv1) (hR.w.2.1 _ fin_125).2.2) dX14_waysOf_5 ?_
  refine lv_topi (fun z2 ez2 => ?_)
  obtain rfl : z2 = (qI S 78 x1.toInt.toNat) := ez2
  obtain ⟨hv3, hd⟩ := hd
  have hFc := rfree hR hA
  refine va_calli (va_runS (As := [.int (qI S 78 x1.toInt.toNat)]) (rest := []) ⟨hx, hb, hml, hown, hts⟩ (r_isJump l g ad s.heap.size S (qI S 78 x1.toInt.toNat) hR.w  hv3) (va_cwS 1 hts (gd2_S kx_383 kx_384 kx_177 kx_385) rfl rfl rfl (by decide +kernel) ⟨Nat.le_of_ble_eq_true rfl, Nat.le_of_ble_eq_true rfl⟩) ⟨rblind, fun U hU hW9 => rmk hU hW9 hR hex hE hFc⟩ rfl rfl hl.1 rfl (lv_room (Nat.le_of_ble_eq_true rfl)) dX14_waysOf_6 ⟨Nat.le_of_ble_eq_true rfl, Nat.le_of_ble_eq_true rfl⟩) hR.sS (fun q _ h => hFc q h) hFc (fun r4 u9 t9 H1 locs ht9 hvm9 hw9 hB9 hz9 hk9 hS => ?_)
  have hR : Rep g ad A s S H1 locs := hR.call ht9 hB9 hR.w hS hFc
  obtain ⟨rfl, hz_r4⟩ := hw9
  clear hB9 hz9 hk9 hvm9 ht9 hS
  generalize H1 = H at hR ⊢
  refine lv_if_eq (tgt := 16) hx hb dX14_waysOf_9 (by decide) (fun c6 => ?_) (fun c6 => ?_)
  · rw [if_pos (k_eq rfl (by decide) c6)] at hf
    (try rw [if_pos (k_eq rfl (by decide) c6)] at hd)
    refine lv_aload_n hx hb dX14_waysOf_16 rfl (lv_at hl 0 rfl) ?_
    refine va_get (D := rD g) (ci := 13) (v := .ref (ad 78)) (C := RX14) (T := TX14) (N := 143) hx hb hts in2X14 hown hR.K hR.P 0 (hR.at14 hR.w.1) rfl 125 (by decide) (hts _ kx_697) (fun _ h9 => h9) (congrArg (fun z => some (vf ad z)) (hR.w.2.1 _ fin_125).1) dX14_waysOf_17 ?_
    refine lv_iload_n hx hb dX14_waysOf_20 rfl (lv_at hl 1 rfl) ?_
    obtain ⟨hv7, hd⟩ := hd
    refine va_iald hx hb hR.K hR.P 78 1 (hR.atI (hR.w.2.1 _ fin_125).2.1) rfl (k_ixN (k_ix (n := 1200) (x := x1) (a := x1.toInt) rfl hv7) (hR.w.2.1 _ fin_125).2.2) dX14_waysOf_21 ?_
    refine lv_topi (fun z8 ez8 => ?_)
    obtain rfl : z8 = (qI S 78 x1.toInt.toNat) := ez8
    obtain ⟨hv9, hd⟩ := hd
    have hFc := rfree hR hA
    refine va_calli (va_runS (As := [.int (qI S 78 x1.toInt.toNat)]) (rest := []) ⟨hx, hb, hml, hown, hts⟩ (r_isSwitch l g ad H.size S (qI S 78 x1.toInt.toNat) hR.w  hv9) (va_cwS 1 hts (gd2_S kx_386 kx_387 kx_177 kx_388) rfl rfl rfl (by decide +kernel) ⟨Nat.le_of_ble_eq_true rfl, Nat.le_of_ble_eq_true rfl⟩) ⟨rblind, fun U hU hW9 => rmk hU hW9 hR hex hE hFc⟩ rfl rfl hl.1 rfl (lv_room (Nat.le_of_ble_eq_true rfl)) dX14_waysOf_22 ⟨Nat.le_of_ble_eq_true rfl, Nat.le_of_ble_eq_true rfl⟩) hR.sS (fun q _ h => hFc q h) hFc (fun r10 u9 t9 H1 locs ht9 hvm9 hw9 hB9 hz9 hk9 hS => ?_)
    have hR : Rep g ad A s S H1 locs := hR.call ht9 hB9 hR.w hS hFc
    obtain ⟨rfl, hz_r10⟩ := hw9
    clear hB9 hz9 hk9 hvm9 ht9 hS
    generalize H1 = H at hR ⊢
    refine lv_if_eq (tgt := 39) hx hb dX14_waysOf_25 (by decide) (fun c12 => ?_) (fun c12 => ?_)
    · rw [if_pos (k_eq rfl (by decide) c12)] at hf
      (try rw [if_pos (k_eq rfl (by decide) c12)] at hd)
      refine lv_iconst (v := 0) hx hb dX14_waysOf_39 (by decide) ?_
      exact W.iret (v := 0) hx hb hr (fun t9 ht9 hW9 => ⟨⟨_, (), rfl, hf.trans hf0.symm, ⟨by rw [ht9]; exact hR.P, hR.D⟩⟩, hR.sS.F ht9⟩) hR.sS.2.2 dX14_waysOf_40
    · rw [if_neg (k_ne rfl (by decide) c12)] at hf
      (try rw [if_neg (k_ne rfl (by decide) c12)] at hd)
      refine lv_aload_n hx hb dX14_waysOf_28 rfl (lv_at hl 0 rfl) ?_
      refine va_get (D := rD g) (ci := 13) (v := .ref (ad 80)) (C := RX14) (T := TX14) (N := 143) hx hb hts in2X14 hown hR.K hR.P 0 (hR.at14 hR.w.1) rfl 127 (by decide) (hts _ kx_698) (fun _ h9 => h9) (congrArg (fun z => some (vf ad z)) (hR.w.2.1 _ fin_127).1) dX14_waysOf_29 ?_
      refine lv_iload_n hx hb dX14_waysOf_32 rfl (lv_at hl 1 rfl) ?_
      obtain ⟨hv13, hd⟩ := hd
      refine va_iald hx hb hR.K hR.P 80 1 (hR.atI (hR.w.2.1 _ fin_127).2.1) rfl (k_ixN (k_ix (n := 1200) (x := x1) (a := x1.toInt) rfl hv13) (hR.w.2.1 _ fin_127).2.2) dX14_waysOf_33 ?_
      refine lv_topi (fun z14 ez14 => ?_)
      obtain rfl : z14 = (qI S 80 x1.toInt.toNat) := ez14
      refine lv_iconst (v := 1) hx hb dX14_waysOf_34 (by decide) ?_
      refine lv_iadd hx hb dX14_waysOf_35 ?_
      refine lv_topi (fun z15 ez15 => ?_)
      obtain rfl : z15 = ((qI S 80 x1.toInt.toNat) + (1 : Int32)) := ez15
      refine lv_goto (tgt := 40) hx hb dX14_waysOf_36 (by decide) ?_
      exact W.iret (v := ((qI S 80 x1.toInt.toNat) + (1 : Int32))) hx hb hr (fun t9 ht9 hW9 => ⟨⟨_, (), rfl, hf.trans hf0.symm, ⟨by rw [ht9]; exact hR.P, hR.D⟩⟩, hR.sS.F ht9⟩) hR.sS.2.2 dX14_waysOf_40
  · rw [if_neg (k_ne rfl (by decide) c6)] at hf
    (try rw [if_neg (k_ne rfl (by decide) c6)] at hd)
    refine lv_iconst (v := 1) hx hb dX14_waysOf_12 (by decide) ?_
    refine lv_goto (tgt := 40) hx hb dX14_waysOf_13 (by decide) ?_
    exact W.iret (v := 1) hx hb hr (fun t9 ht9 hW9 => ⟨⟨_, (), rfl, hf.trans hf0.symm, ⟨by rw [ht9]; exact hR.P, hR.D⟩⟩, hR.sS.F ht9⟩) hR.sS.2.2 dX14_waysOf_40
def w_wayOf (S : MS) (x1 : Int32) (x2 : Int32) (Q : Int32 → MS → Prop) : Prop := (((0 : Int) ≤ x1.toInt ∧ x1.toInt < 1200) ∧ (d_isJump S (qI S 78 x1.toInt.toNat) ∧ (((f_isJump S (qI S 78 x1.toInt.toNat)).toInt = 0 → (((0 : Int) ≤ x1.toInt ∧ x1.toInt < 1200) ∧ (((0 : Int) ≤ ((qI S 79 x1.toInt.toNat) + ((2 : Int32) * x2)).toInt ∧ ((qI S 79 x1.toInt.toNat) + ((2 : Int32) * x2)).toInt < 40000) ∧ (∃ Q13, w_here S (qI S 75 ((((qI S 79 x1.toInt.toNat) + ((2 : Int32) * x2)).toInt).toNat)) Q13 ∧ ∀ r14 S15, Q13 r14 S15 → Q r14 S15)))) ∧ (¬ (f_isJump S (qI S 78 x1.toInt.toNat)).toInt = 0 → (((0 : Int) ≤ x1.toInt ∧ x1.toInt < 1200) ∧ (∃ Q19, w_here S (qI S 79 x1.toInt.toNat) Q19 ∧ ∀ r20 S21, Q19 r20 S21 → Q r20 S21))))))
set_option maxHeartbeats 2000000 in
set_option maxRecDepth 100000 in
theorem r_wayOf (l : Launch) (g : Gr) (ad : Nat → Nat) (sz : Nat) (S : MS) (x1 : Int32) (x2 : Int32) (hw : wfM S) (Q : Int32 → MS → Prop) (h : w_wayOf S x1 x2 Q) : Met l yX14_wayOf (wt2 yX14_wayOf cX14_wayOf 3 (some .int)) ({ frames := 1, cells := 0, slots := 0, locals := 22 }) (va_Pc [.ref (ad 0), .int x1, .int x2] (st_R g ad sz S)) (va_Qi (fun (r : Int32) (u : MS) => Q r u ∧ wfM u ∧ shy S u) (fun (u : MS) (t : State) => qE g ad (va_A (Wd g ad S) sz) u t) (va_A (Wd g ad S) sz)) 0 0 (va_A (Wd g ad S) sz) := by
  refine Met.ofW (cc := cX14_wayOf) (maxL := 3) (ret := (some .int)) (by decide) rfl ?_
  intro p e s m args below meth c s₁ B hml hv
  obtain ⟨rfl, hsz, hP, hK, hD0, hex, hE⟩ := hv
  have hx := B.exec
  have hb := B.bytes
  have hr := B.returns
  have hts0 := atoms_spec (ws := wt2 yX14_wayOf cX14_wayOf 3 (some .int)) B.pre
  have hts : ∀ w ∈ tb2, w.before _ s = true := fun w h => hts0 w (List.mem_cons_of_mem _ h)
  have hown : s.vm.findClass RX14 = some m.cls := findClass_of_methodNamed B.named
  subst hsz
  have hD := hD0.self (sz := s.heap.size)
  generalize hAe : va_A (Wd g ad S) s.heap.size = A at hD hE ⊢
  have hA : ∀ q : Nat, s.heap.size ≤ q → A q := fun q h => by rw [← hAe]; exact Or.inr h
  have hR : Rep g ad A s S s.heap [] := ⟨hK, hP, hD, va_S.rf, hw⟩
  clear hK hP hD hD0
  have hl := lv_entry ([.ref (ad 0), .int x1, .int x2]) (n := 3) (Nat.le_of_ble_eq_true rfl)
  rw [lg_entry_eq]
  generalize (lg_sl ([.ref (ad 0), .int x1, .int x2]) ++ List.replicate (3 - (lg_sl ([.ref (ad 0), .int x1, .int x2])).length) Slot.unset).toArray = ls at hl ⊢
  have hl : lv_has ls 3 [(0, .ref (ad 0)), (1, .int x1), (2, .int x2)] := hl
  have hsh : shy S S := shy.rf
  unfold w_wayOf at h
  refine lv_aload_n hx hb dX14_wayOf_0 rfl (lv_at hl 0 rfl) ?_
  refine lv_aload_n hx hb dX14_wayOf_1 rfl (lv_at hl 0 rfl) ?_
  refine va_get (D := rD g) (ci := 13) (v := .ref (ad 78)) (C := RX14) (T := TX14) (N := 143) hx hb hts in2X14 hown hR.K hR.P 0 (hR.at14 hR.w.1) rfl 125 (by decide) (hts _ kx_697) (fun _ h9 => h9) (congrArg (fun z => some (vf ad z)) (hR.w.2.1 _ fin_125).1) dX14_wayOf_2 ?_
  refine lv_iload_n hx hb dX14_wayOf_5 rfl (lv_at hl 1 rfl) ?_
  obtain ⟨hv1, h⟩ := h
  refine va_iald hx hb hR.K hR.P 78 1 (hR.atI (hR.w.2.1 _ fin_125).2.1) rfl (k_ixN (k_ix (n := 1200) (x := x1) (a := x1.toInt) rfl hv1) (hR.w.2.1 _ fin_125).2.2) dX14_wayOf_6 ?_
  refine lv_topi (fun z2 ez2 => ?_)
  obtain rfl : z2 = (qI S 78 x1.toInt.toNat) := ez2
  obtain ⟨hv3, h⟩ := h
  have hFc := rfree hR hA
  refine va_calli (va_runS (As := [.int (qI S 78 x1.toInt.toNat)]) (rest := [.ref (ad 0)]) ⟨hx, hb, hml, hown, hts⟩ (r_isJump l g ad s.heap.size S (qI S 78 x1.toInt.toNat) hR.w  hv3) (va_cwS 1 hts (gd2_S kx_383 kx_384 kx_177 kx_385) rfl rfl rfl (by decide +kernel) ⟨Nat.le_of_ble_eq_true rfl, Nat.le_of_ble_eq_true rfl⟩) ⟨rblind, fun U hU hW9 => rmk hU hW9 hR hex hE hFc⟩ rfl rfl hl.1 rfl (lv_room (Nat.le_of_ble_eq_true rfl)) dX14_wayOf_7 ⟨Nat.le_of_ble_eq_true rfl, Nat.le_of_ble_eq_true rfl⟩) hR.sS (fun q _ h => hFc q h) hFc (fun r4 u9 t9 H1 locs ht9 hvm9 hw9 hB9 hz9 hk9 hS => ?_)
  have hR : Rep g ad A s S H1 locs := hR.call ht9 hB9 hR.w hS hFc
  obtain ⟨rfl, hz_r4⟩ := hw9
  clear hB9 hz9 hk9 hvm9 ht9 hS
  generalize H1 = H at hR ⊢
  refine lv_if_eq (tgt := 22) hx hb dX14_wayOf_10 (by decide) (fun c6 => ?_) (fun c6 => ?_)
  · replace h := h.1 (k_eq rfl (by decide) c6)
    refine lv_aload_n hx hb dX14_wayOf_22 rfl (lv_at hl 0 rfl) ?_
    refine va_get (D := rD g) (ci := 13) (v := .ref (ad 75)) (C := RX14) (T := TX14) (N := 143) hx hb hts in2X14 hown hR.K hR.P 0 (hR.at14 hR.w.1) rfl 120 (by decide) (hts _ kx_699) (fun _ h9 => h9) (congrArg (fun z => some (vf ad z)) (hR.w.2.1 _ fin_120).1) dX14_wayOf_23 ?_
    refine lv_aload_n hx hb dX14_wayOf_26 rfl (lv_at hl 0 rfl) ?_
    refine va_get (D := rD g) (ci := 13) (v := .ref (ad 79)) (C := RX14) (T := TX14) (N := 143) hx hb hts in2X14 hown hR.K hR.P 0 (hR.at14 hR.w.1) rfl 126 (by decide) (hts _ kx_700) (fun _ h9 => h9) (congrArg (fun z => some (vf ad z)) (hR.w.2.1 _ fin_126).1) dX14_wayOf_27 ?_
    refine lv_iload_n hx hb dX14_wayOf_30 rfl (lv_at hl 1 rfl) ?_
    obtain ⟨hv7, h⟩ := h
    refine va_iald hx hb hR.K hR.P 79 1 (hR.atI (hR.w.2.1 _ fin_126).2.1) rfl (k_ixN (k_ix (n := 1200) (x := x1) (a := x1.toInt) rfl hv7) (hR.w.2.1 _ fin_126).2.2) dX14_wayOf_31 ?_
    refine lv_topi (fun z8 ez8 => ?_)
    obtain rfl : z8 = (qI S 79 x1.toInt.toNat) := ez8
    refine lv_iconst (v := 2) hx hb dX14_wayOf_32 (by decide) ?_
    refine lv_iload_n hx hb dX14_wayOf_33 rfl (lv_at hl 2 rfl) ?_
    refine lv_imul hx hb dX14_wayOf_34 ?_
    refine lv_topi (fun z9 ez9 => ?_)
    obtain rfl : z9 = ((2 : Int32) * x2) := ez9
    refine lv_iadd hx hb dX14_wayOf_35 ?_
    refine lv_topi (fun z10 ez10 => ?_)
    obtain rfl : z10 = ((qI S 79 x1.toInt.toNat) + ((2 : Int32) * x2)) := ez10
    obtain ⟨hv11, h⟩ := h
    refine va_iald hx hb hR.K hR.P 75 1 (hR.atI (hR.w.2.1 _ fin_120).2.1) rfl (k_ixN (k_ix (n := 40000) (x := ((qI S 79 x1.toInt.toNat) + ((2 : Int32) * x2))) (a := ((qI S 79 x1.toInt.toNat) + ((2 : Int32) * x2)).toInt) rfl hv11) (hR.w.2.1 _ fin_120).2.2) dX14_wayOf_36 ?_
    refine lv_topi (fun z12 ez12 => ?_)
    obtain rfl : z12 = (qI S 75 ((((qI S 79 x1.toInt.toNat) + ((2 : Int32) * x2)).toInt).toNat)) := ez12
    obtain ⟨Q13, h0, h⟩ := h
    have hFc := rfree hR hA
    refine va_calli (va_runV (As := [.int (qI S 75 ((((qI S 79 x1.toInt.toNat) + ((2 : Int32) * x2)).toInt).toNat))]) (rest := []) ⟨hx, hb, hml, hown, hts⟩ (r_here l g ad H.size S (qI S 75 ((((qI S 79 x1.toInt.toNat) + ((2 : Int32) * x2)).toInt).toNat)) hR.w  Q13 h0) (cwV 1 hts (gd2_V kx_693 kx_694 kx_695 kx_177 kx_696) rfl rfl rfl (by decide +kernel) ⟨Nat.le_of_ble_eq_true rfl, Nat.le_of_ble_eq_true rfl⟩) ⟨rblind, va_recv hR.K hR.P (ci := 13) (q0 := 0) rfl (hR.at14 hR.w.1), fun U hU hW9 => rmk hU hW9 hR hex hE hFc⟩ rfl rfl hl.1 rfl (lv_room (Nat.le_of_ble_eq_true rfl)) dX14_wayOf_37 ⟨Nat.le_of_ble_eq_true rfl, Nat.le_of_ble_eq_true rfl⟩) hR.sS (fun q _ h => hFc q h) hFc (fun r14 S15 t9 H1 locs ht9 hvm9 hw9 hB9 hz9 hk9 hS => ?_)
    obtain ⟨hq16, hw9, hs9⟩ := hw9
    have hR : Rep g ad A s S15 H1 locs := hR.call ht9 hB9 hw9 hS hFc
    have hsh := hsh.tr hs9
    replace h := h r14 S15 hq16
    clear hB9 hz9 hk9 hvm9 ht9 hw9 hs9 hS
    generalize H1 = H at hR ⊢
    exact W.iret (v := r14) hx hb hr (fun t9 ht9 hW9 => ⟨⟨_, S15, rfl, ⟨h, hR.w, hsh⟩, ⟨by rw [ht9]; exact hR.P, hR.D⟩⟩, hR.sS.F ht9⟩) hR.sS.2.2 dX14_wayOf_40
  · replace h := h.2 (k_ne rfl (by decide) c6)
    refine lv_aload_n hx hb dX14_wayOf_13 rfl (lv_at hl 0 rfl) ?_
    refine va_get (D := rD g) (ci := 13) (v := .ref (ad 79)) (C := RX14) (T := TX14) (N := 143) hx hb hts in2X14 hown hR.K hR.P 0 (hR.at14 hR.w.1) rfl 126 (by decide) (hts _ kx_700) (fun _ h9 => h9) (congrArg (fun z => some (vf ad z)) (hR.w.2.1 _ fin_126).1) dX14_wayOf_14 ?_
    refine lv_iload_n hx hb dX14_wayOf_17 rfl (lv_at hl 1 rfl) ?_
    obtain ⟨hv17, h⟩ := h
    refine va_iald hx hb hR.K hR.P 79 1 (hR.atI (hR.w.2.1 _ fin_126).2.1) rfl (k_ixN (k_ix (n := 1200) (x := x1) (a := x1.toInt) rfl hv17) (hR.w.2.1 _ fin_126).2.2) dX14_wayOf_18 ?_
    refine lv_topi (fun z18 ez18 => ?_)
    obtain rfl : z18 = (qI S 79 x1.toInt.toNat) := ez18
    refine lv_goto (tgt := 37) hx hb dX14_wayOf_19 (by decide) ?_
    obtain ⟨Q19, h0, h⟩ := h
    have hFc := rfree hR hA
    refine va_calli (va_runV (As := [.int (qI S 79 x1.toInt.toNat)]) (rest := []) ⟨hx, hb, hml, hown, hts⟩ (r_here l g ad H.size S (qI S 79 x1.toInt.toNat) hR.w  Q19 h0) (cwV 1 hts (gd2_V kx_693 kx_694 kx_695 kx_177 kx_696) rfl rfl rfl (by decide +kernel) ⟨Nat.le_of_ble_eq_true rfl, Nat.le_of_ble_eq_true rfl⟩) ⟨rblind, va_recv hR.K hR.P (ci := 13) (q0 := 0) rfl (hR.at14 hR.w.1), fun U hU hW9 => rmk hU hW9 hR hex hE hFc⟩ rfl rfl hl.1 rfl (lv_room (Nat.le_of_ble_eq_true rfl)) dX14_wayOf_37 ⟨Nat.le_of_ble_eq_true rfl, Nat.le_of_ble_eq_true rfl⟩) hR.sS (fun q _ h => hFc q h) hFc (fun r20 S21 t9 H1 locs ht9 hvm9 hw9 hB9 hz9 hk9 hS => ?_)
    obtain ⟨hq22, hw9, hs9⟩ := hw9
    have hR : Rep g ad A s S21 H1 locs := hR.call ht9 hB9 hw9 hS hFc
    have hsh := hsh.tr hs9
    replace h := h r20 S21 hq22
    clear hB9 hz9 hk9 hvm9 ht9 hw9 hs9 hS
    generalize H1 = H at hR ⊢
    exact W.iret (v := r20) hx hb hr (fun t9 ht9 hW9 => ⟨⟨_, S21, rfl, ⟨h, hR.w, hsh⟩, ⟨by rw [ht9]; exact hR.P, hR.D⟩⟩, hR.sS.F ht9⟩) hR.sS.2.2 dX14_wayOf_40
def w_setWay (S : MS) (x1 : Int32) (x2 : Int32) (x3 : Int32) (Q : MS → Prop) : Prop := (((0 : Int) ≤ x1.toInt ∧ x1.toInt < 1200) ∧ (d_isJump S (qI S 78 x1.toInt.toNat) ∧ (((f_isJump S (qI S 78 x1.toInt.toNat)).toInt = 0 → (((0 : Int) ≤ x1.toInt ∧ x1.toInt < 1200) ∧ (((0 : Int) ≤ ((qI S 79 x1.toInt.toNat) + ((2 : Int32) * x2)).toInt ∧ ((qI S 79 x1.toInt.toNat) + ((2 : Int32) * x2)).toInt < 40000) ∧ (∀ S12, S12 = wI S 75 ((((qI S 79 x1.toInt.toNat) + ((2 : Int32) * x2)).toInt).toNat) x3 → Q S12)))) ∧ (¬ (f_isJump S (qI S 78 x1.toInt.toNat)).toInt = 0 → (((0 : Int) ≤ x1.toInt ∧ x1.toInt < 1200) ∧ (∀ S14, S14 = wI S 79 x1.toInt.toNat x3 → Q S14))))))
set_option maxHeartbeats 2000000 in
set_option maxRecDepth 100000 in
theorem r_setWay (l : Launch) (g : Gr) (ad : Nat → Nat) (sz : Nat) (S : MS) (x1 : Int32) (x2 : Int32) (x3 : Int32) (hw : wfM S) (Q : MS → Prop) (h : w_setWay S x1 x2 x3 Q) : Met l yX14_setWay (wt2 yX14_setWay cX14_setWay 4 none) ({ frames := 1, cells := 0, slots := 0, locals := 20 }) (va_Pc [.ref (ad 0), .int x1, .int x2, .int x3] (st_R g ad sz S)) (va_Qv (fun (u : MS) => Q u ∧ wfM u ∧ shy S u) (fun (u : MS) (t : State) => qE g ad (va_A (Wd g ad S) sz) u t) (va_A (Wd g ad S) sz)) 0 0 (va_A (Wd g ad S) sz) := by
  refine Met.ofW (cc := cX14_setWay) (maxL := 4) (ret := none) (by decide) rfl ?_
  intro p e s m args below meth c s₁ B hml hv
  obtain ⟨rfl, hsz, hP, hK, hD0, hex, hE⟩ := hv
  have hx := B.exec
  have hb := B.bytes
  have hr := B.returns
  have hts0 := atoms_spec (ws := wt2 yX14_setWay cX14_setWay 4 none) B.pre
  have hts : ∀ w ∈ tb2, w.before _ s = true := fun w h => hts0 w (List.mem_cons_of_mem _ h)
  have hown : s.vm.findClass RX14 = some m.cls := findClass_of_methodNamed B.named
  subst hsz
  have hD := hD0.self (sz := s.heap.size)
  generalize hAe : va_A (Wd g ad S) s.heap.size = A at hD hE ⊢
  have hA : ∀ q : Nat, s.heap.size ≤ q → A q := fun q h => by rw [← hAe]; exact Or.inr h
  have hR : Rep g ad A s S s.heap [] := ⟨hK, hP, hD, va_S.rf, hw⟩
  clear hK hP hD hD0
  have hl := lv_entry ([.ref (ad 0), .int x1, .int x2, .int x3]) (n := 4) (Nat.le_of_ble_eq_true rfl)
  rw [lg_entry_eq]
  generalize (lg_sl ([.ref (ad 0), .int x1, .int x2, .int x3]) ++ List.replicate (4 - (lg_sl ([.ref (ad 0), .int x1, .int x2, .int x3])).length) Slot.unset).toArray = ls at hl ⊢
  have hl : lv_has ls 4 [(0, .ref (ad 0)), (1, .int x1), (2, .int x2), (3, .int x3)] := hl
  have hsh : shy S S := shy.rf
  unfold w_setWay at h
  refine lv_aload_n hx hb dX14_setWay_0 rfl (lv_at hl 0 rfl) ?_
  refine va_get (D := rD g) (ci := 13) (v := .ref (ad 78)) (C := RX14) (T := TX14) (N := 143) hx hb hts in2X14 hown hR.K hR.P 0 (hR.at14 hR.w.1) rfl 125 (by decide) (hts _ kx_697) (fun _ h9 => h9) (congrArg (fun z => some (vf ad z)) (hR.w.2.1 _ fin_125).1) dX14_setWay_1 ?_
  refine lv_iload_n hx hb dX14_setWay_4 rfl (lv_at hl 1 rfl) ?_
  obtain ⟨hv1, h⟩ := h
  refine va_iald hx hb hR.K hR.P 78 1 (hR.atI (hR.w.2.1 _ fin_125).2.1) rfl (k_ixN (k_ix (n := 1200) (x := x1) (a := x1.toInt) rfl hv1) (hR.w.2.1 _ fin_125).2.2) dX14_setWay_5 ?_
  refine lv_topi (fun z2 ez2 => ?_)
  obtain rfl : z2 = (qI S 78 x1.toInt.toNat) := ez2
  obtain ⟨hv3, h⟩ := h
  have hFc := rfree hR hA
  refine va_calli (va_runS (As := [.int (qI S 78 x1.toInt.toNat)]) (rest := []) ⟨hx, hb, hml, hown, hts⟩ (r_isJump l g ad s.heap.size S (qI S 78 x1.toInt.toNat) hR.w  hv3) (va_cwS 1 hts (gd2_S kx_383 kx_384 kx_177 kx_385) rfl rfl rfl (by decide +kernel) ⟨Nat.le_of_ble_eq_true rfl, Nat.le_of_ble_eq_true rfl⟩) ⟨rblind, fun U hU hW9 => rmk hU hW9 hR hex hE hFc⟩ rfl rfl hl.1 rfl (lv_room (Nat.le_of_ble_eq_true rfl)) dX14_setWay_6 ⟨Nat.le_of_ble_eq_true rfl, Nat.le_of_ble_eq_true rfl⟩) hR.sS (fun q _ h => hFc q h) hFc (fun r4 u9 t9 H1 locs ht9 hvm9 hw9 hB9 hz9 hk9 hS => ?_)
  have hR : Rep g ad A s S H1 locs := hR.call ht9 hB9 hR.w hS hFc
  obtain ⟨rfl, hz_r4⟩ := hw9
  clear hB9 hz9 hk9 hvm9 ht9 hS
  generalize H1 = H at hR ⊢
  refine lv_if_eq (tgt := 22) hx hb dX14_setWay_9 (by decide) (fun c6 => ?_) (fun c6 => ?_)
  · replace h := h.1 (k_eq rfl (by decide) c6)
    refine lv_aload_n hx hb dX14_setWay_22 rfl (lv_at hl 0 rfl) ?_
    refine va_get (D := rD g) (ci := 13) (v := .ref (ad 75)) (C := RX14) (T := TX14) (N := 143) hx hb hts in2X14 hown hR.K hR.P 0 (hR.at14 hR.w.1) rfl 120 (by decide) (hts _ kx_699) (fun _ h9 => h9) (congrArg (fun z => some (vf ad z)) (hR.w.2.1 _ fin_120).1) dX14_setWay_23 ?_
    refine lv_aload_n hx hb dX14_setWay_26 rfl (lv_at hl 0 rfl) ?_
    refine va_get (D := rD g) (ci := 13) (v := .ref (ad 79)) (C := RX14) (T := TX14) (N := 143) hx hb hts in2X14 hown hR.K hR.P 0 (hR.at14 hR.w.1) rfl 126 (by decide) (hts _ kx_700) (fun _ h9 => h9) (congrArg (fun z => some (vf ad z)) (hR.w.2.1 _ fin_126).1) dX14_setWay_27 ?_
    refine lv_iload_n hx hb dX14_setWay_30 rfl (lv_at hl 1 rfl) ?_
    obtain ⟨hv7, h⟩ := h
    refine va_iald hx hb hR.K hR.P 79 1 (hR.atI (hR.w.2.1 _ fin_126).2.1) rfl (k_ixN (k_ix (n := 1200) (x := x1) (a := x1.toInt) rfl hv7) (hR.w.2.1 _ fin_126).2.2) dX14_setWay_31 ?_
    refine lv_topi (fun z8 ez8 => ?_)
    obtain rfl : z8 = (qI S 79 x1.toInt.toNat) := ez8
    refine lv_iconst (v := 2) hx hb dX14_setWay_32 (by decide) ?_
    refine lv_iload_n hx hb dX14_setWay_33 rfl (lv_at hl 2 rfl) ?_
    refine lv_imul hx hb dX14_setWay_34 ?_
    refine lv_topi (fun z9 ez9 => ?_)
    obtain rfl : z9 = ((2 : Int32) * x2) := ez9
    refine lv_iadd hx hb dX14_setWay_35 ?_
    refine lv_topi (fun z10 ez10 => ?_)
    obtain rfl : z10 = ((qI S 79 x1.toInt.toNat) + ((2 : Int32) * x2)) := ez10
    refine lv_iload_n hx hb dX14_setWay_36 rfl (lv_at hl 3 rfl) ?_
    obtain ⟨hv11, h⟩ := h
    refine va_iast hx hb hR.K hR.P hR.D hR.sS 75 1 (hR.atI (hR.w.2.1 _ fin_120).2.1) rfl (k_ixN (k_ix (n := 40000) (x := ((qI S 79 x1.toInt.toNat) + ((2 : Int32) * x2))) (a := ((qI S 79 x1.toInt.toNat) + ((2 : Int32) * x2)).toInt) rfl hv11) (hR.w.2.1 _ fin_120).2.2) dX14_setWay_37 (fun H locs hP hD hS => ?_)
    have hR : Rep g ad A s (wI S 75 ((((qI S 79 x1.toInt.toNat) + ((2 : Int32) * x2)).toInt).toNat) x3) H locs := hR.aI (hR.w.2.1 _ fin_120).2.1 hP hD hS
    obtain ⟨S12, eS12⟩ : ∃ z, z = wI S 75 ((((qI S 79 x1.toInt.toNat) + ((2 : Int32) * x2)).toInt).toNat) x3 := ⟨_, rfl⟩
    rw [← eS12] at hR
    replace h := h S12 eS12
    have hsh : shy S S12 := by rw [eS12]; exact hsh
    exact W.vret hx hb hr (fun t9 ht9 hW9 => ⟨⟨S12, rfl, ⟨h, hR.w, hsh⟩, ⟨by rw [ht9]; exact hR.P, hR.D⟩⟩, hR.sS.F ht9⟩) hR.sS.2.2 dX14_setWay_38
  · replace h := h.2 (k_ne rfl (by decide) c6)
    refine lv_aload_n hx hb dX14_setWay_12 rfl (lv_at hl 0 rfl) ?_
    refine va_get (D := rD g) (ci := 13) (v := .ref (ad 79)) (C := RX14) (T := TX14) (N := 143) hx hb hts in2X14 hown hR.K hR.P 0 (hR.at14 hR.w.1) rfl 126 (by decide) (hts _ kx_700) (fun _ h9 => h9) (congrArg (fun z => some (vf ad z)) (hR.w.2.1 _ fin_126).1) dX14_setWay_13 ?_
    refine lv_iload_n hx hb dX14_setWay_16 rfl (lv_at hl 1 rfl) ?_
    refine lv_iload_n hx hb dX14_setWay_17 rfl (lv_at hl 3 rfl) ?_
    obtain ⟨hv13, h⟩ := h
    refine va_iast hx hb hR.K hR.P hR.D hR.sS 79 1 (hR.atI (hR.w.2.1 _ fin_126).2.1) rfl (k_ixN (k_ix (n := 1200) (x := x1) (a := x1.toInt) rfl hv13) (hR.w.2.1 _ fin_126).2.2) dX14_setWay_18 (fun H locs hP hD hS => ?_)
    have hR : Rep g ad A s (wI S 79 x1.toInt.toNat x3) H locs := hR.aI (hR.w.2.1 _ fin_126).2.1 hP hD hS
    obtain ⟨S14, eS14⟩ : ∃ z, z = wI S 79 x1.toInt.toNat x3 := ⟨_, rfl⟩
    rw [← eS14] at hR
    replace h := h S14 eS14
    have hsh : shy S S14 := by rw [eS14]; exact hsh
    refine lv_goto (tgt := 38) hx hb dX14_setWay_19 (by decide) ?_
    exact W.vret hx hb hr (fun t9 ht9 hW9 => ⟨⟨S14, rfl, ⟨h, hR.w, hsh⟩, ⟨by rw [ht9]; exact hR.P, hR.D⟩⟩, hR.sS.F ht9⟩) hR.sS.2.2 dX14_setWay_38
def f_isIn_J33 (S : MS) : Int32 := (0 : Int32)
def d_isIn_J33 (S : MS) : Prop := True
def f_isIn (S : MS) (x1 : Int32) (x2 : Int32) : Int32 := (if (qI S 86 x2.toInt.toNat).toInt = 0 then (if x1.toInt < (qI S 82 x2.toInt.toNat).toInt then f_isIn_J33 S else (if (qI S 83 x2.toInt.toNat).toInt ≤ x1.toInt then f_isIn_J33 S else (1 : Int32))) else f_isIn_J33 S)
def d_isIn (S : MS) (x1 : Int32) (x2 : Int32) : Prop := (((0 : Int) ≤ x2.toInt ∧ x2.toInt < 16) ∧ (if (qI S 86 x2.toInt.toNat).toInt = 0 then (((0 : Int) ≤ x2.toInt ∧ x2.toInt < 16) ∧ (if x1.toInt < (qI S 82 x2.toInt.toNat).toInt then d_isIn_J33 S else (((0 : Int) ≤ x2.toInt ∧ x2.toInt < 16) ∧ (if (qI S 83 x2.toInt.toNat).toInt ≤ x1.toInt then d_isIn_J33 S else True)))) else d_isIn_J33 S))
set_option maxHeartbeats 2000000 in
set_option maxRecDepth 100000 in
theorem r_isIn (l : Launch) (g : Gr) (ad : Nat → Nat) (sz : Nat) (S : MS) (x1 : Int32) (x2 : Int32) (hw : wfM S) (hd : d_isIn S x1 x2) : Met l yX14_isIn (wt2 yX14_isIn cX14_isIn 3 (some .boolean)) ({ frames := 0, cells := 0, slots := 0, locals := 0 }) (va_Pc [.ref (ad 0), .int x1, .int x2] (st_R g ad sz S)) (va_Qi (fun (r : Int32) (_ : Unit) => r = f_isIn S x1 x2 ∧ (r = 0 ∨ r = 1)) (fun (_ : Unit) (t : State) => qE g ad (va_A (Wd g ad S) sz) S t) (va_A (Wd g ad S) sz)) 0 0 (va_A (Wd g ad S) sz) := by
  refine Met.ofW (cc := cX14_isIn) (maxL := 3) (ret := (some .boolean)) (by decide) rfl ?_
  intro p e s m args below meth c s₁ B hml hv
  obtain ⟨rfl, hsz, hP, hK, hD0, hex, hE⟩ := hv
  have hx := B.exec
  have hb := B.bytes
  have hr := B.returns
  have hts0 := atoms_spec (ws := wt2 yX14_isIn cX14_isIn 3 (some .boolean)) B.pre
  have hts : ∀ w ∈ tb2, w.before _ s = true := fun w h => hts0 w (List.mem_cons_of_mem _ h)
  have hown : s.vm.findClass RX14 = some m.cls := findClass_of_methodNamed B.named
  subst hsz
  have hD := hD0.self (sz := s.heap.size)
  generalize hAe : va_A (Wd g ad S) s.heap.size = A at hD hE ⊢
  have hA : ∀ q : Nat, s.heap.size ≤ q → A q := fun q h => by rw [← hAe]; exact Or.inr h
  have hR : Rep g ad A s S s.heap [] := ⟨hK, hP, hD, va_S.rf, hw⟩
  clear hK hP hD hD0
  have hl := lv_entry ([.ref (ad 0), .int x1, .int x2]) (n := 3) (Nat.le_of_ble_eq_true rfl)
  rw [lg_entry_eq]
  generalize (lg_sl ([.ref (ad 0), .int x1, .int x2]) ++ List.replicate (3 - (lg_sl ([.ref (ad 0), .int x1, .int x2])).length) Slot.unset).toArray = ls at hl ⊢
  have hl : lv_has ls 3 [(0, .ref (ad 0)), (1, .int x1), (2, .int x2)] := hl
  obtain ⟨r0, hf⟩ : ∃ r0, f_isIn S x1 x2 = r0 := ⟨_, rfl⟩
  have hf0 := hf
  unfold f_isIn at hf
  unfold d_isIn at hd
  refine lv_aload_n hx hb dX14_isIn_0 rfl (lv_at hl 0 rfl) ?_
  refine va_get (D := rD g) (ci := 13) (v := .ref (ad 86)) (C := RX14) (T := TX14) (N := 143) hx hb hts in2X14 hown hR.K hR.P 0 (hR.at14 hR.w.1) rfl 134 (by decide) (hts _ kx_701) (fun _ h9 => h9) (congrArg (fun z => some (vf ad z)) (hR.w.2.1 _ fin_134).1) dX14_isIn_1 ?_
  refine lv_iload_n hx hb dX14_isIn_4 rfl (lv_at hl 2 rfl) ?_
  obtain ⟨hv1, hd⟩ := hd
  refine va_zald hx hb hR.K hR.P 86 2 (hR.atZ (hR.w.2.1 _ fin_134).2.1) rfl (k_ixN (k_ix (n := 16) (x := x2) (a := x2.toInt) rfl hv1) (hR.w.2.1 _ fin_134).2.2) dX14_isIn_5 ?_
  refine lv_topi (fun z2 ez2 => ?_)
  obtain rfl : z2 = (qI S 86 x2.toInt.toNat) := ez2
  have J_33 : ∀ (H : Heap) (locs : List Loc) (ls : Array Slot), d_isIn_J33 S → f_isIn_J33 S = r0 → Rep g ad A s S H locs → lv_has ls 3 [] → W p l e (headSpec (wt2 yX14_isIn cX14_isIn 3 (some .boolean)) ({ frames := 0, cells := 0, slots := 0, locals := 0 })).room s m ([.ref (ad 0), .int x1, .int x2] : List Value).toArray below meth c H locs 0 0 (MQ below (va_Qi (fun (r : Int32) (_ : Unit) => r = f_isIn S x1 x2 ∧ (r = 0 ∨ r = 1)) (fun (_ : Unit) (t : State) => qE g ad A S t) A) ([.ref (ad 0), .int x1, .int x2] : List Value).toArray s 0 0 A) (F0 m 33 ls []) := by
    intro H locs ls hd hf hR hl
    unfold d_isIn_J33 at hd
    unfold f_isIn_J33 at hf
    refine lv_iconst (v := 0) hx hb dX14_isIn_33 (by decide) ?_
    exact W.zret (v := 0) hx hb hr (nz (Or.inl rfl)) (fun t9 ht9 hW9 => ⟨⟨_, (), rfl, ⟨hf.trans hf0.symm, (Or.inl rfl)⟩, ⟨by rw [ht9]; exact hR.P, hR.D⟩⟩, hR.sS.F ht9⟩) hR.sS.2.2 dX14_isIn_34
  refine lv_if_ne (tgt := 33) hx hb dX14_isIn_6 (by decide) (fun c3 => ?_) (fun c3 => ?_)
  · rw [if_neg (k_ne rfl (by decide) c3)] at hf
    (try rw [if_neg (k_ne rfl (by decide) c3)] at hd)
    exact J_33 _ _ ls hd hf  hR (lv_sub hl [] rfl)
  · rw [if_pos (k_eq rfl (by decide) c3)] at hf
    (try rw [if_pos (k_eq rfl (by decide) c3)] at hd)
    refine lv_iload_n hx hb dX14_isIn_9 rfl (lv_at hl 1 rfl) ?_
    refine lv_aload_n hx hb dX14_isIn_10 rfl (lv_at hl 0 rfl) ?_
    refine va_get (D := rD g) (ci := 13) (v := .ref (ad 82)) (C := RX14) (T := TX14) (N := 143) hx hb hts in2X14 hown hR.K hR.P 0 (hR.at14 hR.w.1) rfl 130 (by decide) (hts _ kx_702) (fun _ h9 => h9) (congrArg (fun z => some (vf ad z)) (hR.w.2.1 _ fin_130).1) dX14_isIn_11 ?_
    refine lv_iload_n hx hb dX14_isIn_14 rfl (lv_at hl 2 rfl) ?_
    obtain ⟨hv4, hd⟩ := hd
    refine va_iald hx hb hR.K hR.P 82 1 (hR.atI (hR.w.2.1 _ fin_130).2.1) rfl (k_ixN (k_ix (n := 16) (x := x2) (a := x2.toInt) rfl hv4) (hR.w.2.1 _ fin_130).2.2) dX14_isIn_15 ?_
    refine lv_topi (fun z5 ez5 => ?_)
    obtain rfl : z5 = (qI S 82 x2.toInt.toNat) := ez5
    refine lv_icmp_lt (tgt := 33) hx hb dX14_isIn_16 (by decide) (fun c6 => ?_) (fun c6 => ?_)
    · rw [if_pos (k_lt rfl rfl c6)] at hf
      (try rw [if_pos (k_lt rfl rfl c6)] at hd)
      exact J_33 _ _ ls hd hf  hR (lv_sub hl [] rfl)
    · rw [if_neg (k_nlt rfl rfl c6)] at hf
      (try rw [if_neg (k_nlt rfl rfl c6)] at hd)
      refine lv_iload_n hx hb dX14_isIn_19 rfl (lv_at hl 1 rfl) ?_
      refine lv_aload_n hx hb dX14_isIn_20 rfl (lv_at hl 0 rfl) ?_
      refine va_get (D := rD g) (ci := 13) (v := .ref (ad 83)) (C := RX14) (T := TX14) (N := 143) hx hb hts in2X14 hown hR.K hR.P 0 (hR.at14 hR.w.1) rfl 131 (by decide) (hts _ kx_703) (fun _ h9 => h9) (congrArg (fun z => some (vf ad z)) (hR.w.2.1 _ fin_131).1) dX14_isIn_21 ?_
      refine lv_iload_n hx hb dX14_isIn_24 rfl (lv_at hl 2 rfl) ?_
      obtain ⟨hv7, hd⟩ := hd
      refine va_iald hx hb hR.K hR.P 83 1 (hR.atI (hR.w.2.1 _ fin_131).2.1) rfl (k_ixN (k_ix (n := 16) (x := x2) (a := x2.toInt) rfl hv7) (hR.w.2.1 _ fin_131).2.2) dX14_isIn_25 ?_
      refine lv_topi (fun z8 ez8 => ?_)
      obtain rfl : z8 = (qI S 83 x2.toInt.toNat) := ez8
      refine lv_icmp_ge (tgt := 33) hx hb dX14_isIn_26 (by decide) (fun c9 => ?_) (fun c9 => ?_)
      · rw [if_pos (k_le rfl rfl c9)] at hf
        (try rw [if_pos (k_le rfl rfl c9)] at hd)
        exact J_33 _ _ ls hd hf  hR (lv_sub hl [] rfl)
      · rw [if_neg (k_nle rfl rfl c9)] at hf
        (try rw [if_neg (k_nle rfl rfl c9)] at hd)
        refine lv_iconst (v := 1) hx hb dX14_isIn_29 (by decide) ?_
        refine lv_goto (tgt := 34) hx hb dX14_isIn_30 (by decide) ?_
        exact W.zret (v := 1) hx hb hr (nz (Or.inr rfl)) (fun t9 ht9 hW9 => ⟨⟨_, (), rfl, ⟨hf.trans hf0.symm, (Or.inr rfl)⟩, ⟨by rw [ht9]; exact hR.P, hR.D⟩⟩, hR.sS.F ht9⟩) hR.sS.2.2 dX14_isIn_34
def w_mark_J196 (Q : MS → Prop) (k128 : MS → Int32 → Prop) (U196 : MS) (v196_1 : Int32) : Prop := (∀ a7 : Int32, a7 = (v196_1 + Int32.ofInt 1) → k128 U196 a7)
def w_mark_L128 (Q : MS → Prop) : Nat → MS → Int32 → Prop
  | 0, _, _ => False
  | n128 + 1, U128, v128_1 => (((qI U128 0 135).toInt ≤ v128_1.toInt → Q U128) ∧ (¬ (qI U128 0 135).toInt ≤ v128_1.toInt → (((0 : Int) ≤ v128_1.toInt ∧ v128_1.toInt < 16) ∧ (((qI U128 86 v128_1.toInt.toNat).toInt = 0 → (((0 : Int) ≤ v128_1.toInt ∧ v128_1.toInt < 16) ∧ (∃ Q11, w_here U128 (qI U128 82 v128_1.toInt.toNat) Q11 ∧ ∀ r12 S13, Q11 r12 S13 → (((0 : Int) ≤ r12.toInt ∧ r12.toInt < 1201) ∧ (∀ S16, S16 = wI S13 87 r12.toInt.toNat (vp_nar .boolean (1 : Int32)) → (((0 : Int) ≤ v128_1.toInt ∧ v128_1.toInt < 16) ∧ (∃ Q19, w_here S16 (qI S16 83 v128_1.toInt.toNat) Q19 ∧ ∀ r20 S21, Q19 r20 S21 → (((0 : Int) ≤ r20.toInt ∧ r20.toInt < 1201) ∧ (∀ S24, S24 = wI S21 87 r20.toInt.toNat (vp_nar .boolean (1 : Int32)) → (((0 : Int) ≤ v128_1.toInt ∧ v128_1.toInt < 16) ∧ (∃ Q27, w_here S24 (qI S24 84 v128_1.toInt.toNat) Q27 ∧ ∀ r28 S29, Q27 r28 S29 → (((0 : Int) ≤ r28.toInt ∧ r28.toInt < 1201) ∧ (∀ S32, S32 = wI S29 87 r28.toInt.toNat (vp_nar .boolean (1 : Int32)) → w_mark_J196 Q (w_mark_L128 Q n128) S32 v128_1))))))))))))) ∧ (¬ (qI U128 86 v128_1.toInt.toNat).toInt = 0 → w_mark_J196 Q (w_mark_L128 Q n128) U128 v128_1)))))
def w_mark_J120 (Q : MS → Prop) (k71 : MS → Int32 → Prop) (U120 : MS) (v120_1 : Int32) : Prop := (∀ a35 : Int32, a35 = (v120_1 + Int32.ofInt 1) → k71 U120 a35)
def w_mark_L93 (Q : MS → Prop) (k71 : MS → Int32 → Prop) : Nat → MS → Int32 → Int32 → Prop
  | 0, _, _, _ => False
  | n93 + 1, U93, v93_1, v93_2 => (d_waysOf U93 v93_1 ∧ (((f_waysOf U93 v93_1).toInt ≤ v93_2.toInt → w_mark_J120 Q k71 U93 v93_1) ∧ (¬ (f_waysOf U93 v93_1).toInt ≤ v93_2.toInt → (∃ Q41, w_wayOf U93 v93_1 v93_2 Q41 ∧ ∀ r42 S43, Q41 r42 S43 → (((0 : Int) ≤ r42.toInt ∧ r42.toInt < 1201) ∧ (∀ S46, S46 = wI S43 87 r42.toInt.toNat (vp_nar .boolean (1 : Int32)) → (∀ a47 : Int32, a47 = (v93_2 + Int32.ofInt 1) → (w_mark_L93 Q k71 n93) S46 v93_1 a47)))))))
def w_mark_L71 (Q : MS → Prop) : Nat → MS → Int32 → Prop
  | 0, _, _ => False
  | n71 + 1, U71, v71_1 => (((qI U71 0 129).toInt ≤ v71_1.toInt → (∃ n, w_mark_L128 Q n U71 0)) ∧ (¬ (qI U71 0 129).toInt ≤ v71_1.toInt → (((0 : Int) ≤ v71_1.toInt ∧ v71_1.toInt < 1200) ∧ (((qI U71 81 v71_1.toInt.toNat).toInt = 0 → (∃ n, w_mark_L93 Q (w_mark_L71 Q n71) n U71 v71_1 0)) ∧ (¬ (qI U71 81 v71_1.toInt.toNat).toInt = 0 → w_mark_J120 Q (w_mark_L71 Q n71) U71 v71_1)))))
def w_mark_L48 (Q : MS → Prop) : Nat → MS → Int32 → Prop
  | 0, _, _ => False
  | n48 + 1, U48, v48_1 => (((qI U48 0 129).toInt < v48_1.toInt → (∃ n, w_mark_L71 Q n U48 0)) ∧ (¬ (qI U48 0 129).toInt < v48_1.toInt → (((0 : Int) ≤ v48_1.toInt ∧ v48_1.toInt < 1201) ∧ (∀ S49, S49 = wI U48 87 v48_1.toInt.toNat (vp_nar .boolean (0 : Int32)) → (∀ a50 : Int32, a50 = (v48_1 + Int32.ofInt 1) → (w_mark_L48 Q n48) S49 a50)))))
def w_mark_J40 (Q : MS → Prop) (k2 : MS → Int32 → Prop) (U40 : MS) (v40_1 : Int32) : Prop := (∀ a63 : Int32, a63 = (v40_1 + Int32.ofInt 1) → k2 U40 a63)
def w_mark_L2 (Q : MS → Prop) : Nat → MS → Int32 → Prop
  | 0, _, _ => False
  | n2 + 1, U2, v2_1 => (((qI U2 0 135).toInt ≤ v2_1.toInt → (∃ n, w_mark_L48 Q n U2 0)) ∧ (¬ (qI U2 0 135).toInt ≤ v2_1.toInt → (((0 : Int) ≤ v2_1.toInt ∧ v2_1.toInt < 16) ∧ (∃ Q53, w_here U2 (qI U2 82 v2_1.toInt.toNat) Q53 ∧ ∀ r54 S55, Q53 r54 S55 → (((0 : Int) ≤ v2_1.toInt ∧ v2_1.toInt < 16) ∧ (∃ Q59, w_here S55 (qI S55 83 v2_1.toInt.toNat) Q59 ∧ ∀ r60 S61, Q59 r60 S61 → ((r54.toInt < r60.toInt → w_mark_J40 Q (w_mark_L2 Q n2) S61 v2_1) ∧ (¬ r54.toInt < r60.toInt → (((0 : Int) ≤ v2_1.toInt ∧ v2_1.toInt < 16) ∧ (∀ S66, S66 = wI S61 86 v2_1.toInt.toNat (vp_nar .boolean (1 : Int32)) → w_mark_J40 Q (w_mark_L2 Q n2) S66 v2_1))))))))))
def w_mark (S : MS) (Q : MS → Prop) : Prop := (∃ n, w_mark_L2 Q n S 0)
set_option maxHeartbeats 2000000 in
set_option maxRecDepth 100000 in
theorem r_mark (l : Launch) (g : Gr) (ad : Nat → Nat) (sz : Nat) (S : MS) (hw : wfM S) (Q : MS → Prop) (h : w_mark S Q) : Met l yX14_mark (wt2 yX14_mark cX14_mark 3 none) ({ frames := 2, cells := 0, slots := 0, locals := 44 }) (va_Pc [.ref (ad 0)] (st_R g ad sz S)) (va_Qv (fun (u : MS) => Q u ∧ wfM u ∧ shy S u) (fun (u : MS) (t : State) => qE g ad (va_A (Wd g ad S) sz) u t) (va_A (Wd g ad S) sz)) 0 0 (va_A (Wd g ad S) sz) := by
  refine Met.ofW (cc := cX14_mark) (maxL := 3) (ret := none) (by decide) rfl ?_
  intro p e s m args below meth c s₁ B hml hv
  obtain ⟨rfl, hsz, hP, hK, hD0, hex, hE⟩ := hv
  have hx := B.exec
  have hb := B.bytes
  have hr := B.returns
  have hts0 := atoms_spec (ws := wt2 yX14_mark cX14_mark 3 none) B.pre
  have hts : ∀ w ∈ tb2, w.before _ s = true := fun w h => hts0 w (List.mem_cons_of_mem _ h)
  have hown : s.vm.findClass RX14 = some m.cls := findClass_of_methodNamed B.named
  subst hsz
  have hD := hD0.self (sz := s.heap.size)
  generalize hAe : va_A (Wd g ad S) s.heap.size = A at hD hE ⊢
  have hA : ∀ q : Nat, s.heap.size ≤ q → A q := fun q h => by rw [← hAe]; exact Or.inr h
  have hR : Rep g ad A s S s.heap [] := ⟨hK, hP, hD, va_S.rf, hw⟩
  clear hK hP hD hD0
  have hl := lv_entry ([.ref (ad 0)]) (n := 3) (Nat.le_of_ble_eq_true rfl)
  rw [lg_entry_eq]
  generalize (lg_sl ([.ref (ad 0)]) ++ List.replicate (3 - (lg_sl ([.ref (ad 0)])).length) Slot.unset).toArray = ls at hl ⊢
  have hl : lv_has ls 3 [(0, .ref (ad 0))] := hl
  have hsh : shy S S := shy.rf
  unfold w_mark at h
  refine lv_iconst (v := 0) hx hb dX14_mark_0 (by decide) ?_
  refine lv_istore_n (lv' := [(1, .int 0), (0, .ref (ad 0))]) hx hb dX14_mark_1 rfl hl (by decide) rfl (fun ls hl => ?_)
  have J_2 : ∀ (n2 : Nat) (U2 : MS) (v2_1 : Int32) (H : Heap) (locs : List Loc) (ls : Array Slot), w_mark_L2 Q n2 U2 v2_1 → shy S U2 → Rep g ad A s U2 H locs → lv_has ls 3 [(0, .ref (ad 0)), (1, .int v2_1)] → W p l e (headSpec (wt2 yX14_mark cX14_mark 3 none) ({ frames := 2, cells := 0, slots := 0, locals := 44 })).room s m ([.ref (ad 0)] : List Value).toArray below meth c H locs 0 0 (MQ below (va_Qv (fun (u : MS) => Q u ∧ wfM u ∧ shy S u) (fun (u : MS) (t : State) => qE g ad A u t) A) ([.ref (ad 0)] : List Value).toArray s 0 0 A) (F0 m 2 ls []) := by
    intro n2
    induction n2 with
    | zero => intro U2 v2_1 H locs ls h hsh hR hl; unfold w_mark_L2 at h; exact h.elim
    | succ n2 ih_2 =>
      intro U2 v2_1 H locs ls h hsh hR hl
      unfold w_mark_L2 at h
      refine lv_iload_n hx hb dX14_mark_2 rfl (lv_at hl 1 rfl) ?_
      refine lv_aload_n hx hb dX14_mark_3 rfl (lv_at hl 0 rfl) ?_
      refine va_get (D := rD g) (ci := 13) (v := .int (qI U2 0 135)) (C := RX14) (T := TX14) (N := 143) hx hb hts in2X14 hown hR.K hR.P 0 (hR.at14 hR.w.1) rfl 135 (by decide) (hts _ kx_704) (fun _ h9 => h9) rfl dX14_mark_4 ?_
      refine lv_icmp_ge (tgt := 46) hx hb dX14_mark_7 (by decide) (fun c1 => ?_) (fun c1 => ?_)
      · replace h := h.1 (k_le rfl rfl c1)
        refine lv_iconst (v := 0) hx hb dX14_mark_46 (by decide) ?_
        refine lv_istore_n (lv' := [(1, .int 0), (0, .ref (ad 0))]) hx hb dX14_mark_47 rfl hl (by decide) rfl (fun ls hl => ?_)
        have J_48 : ∀ (n48 : Nat) (U48 : MS) (v48_1 : Int32) (H : Heap) (locs : List Loc) (ls : Array Slot), w_mark_L48 Q n48 U48 v48_1 → shy S U48 → Rep g ad A s U48 H locs → lv_has ls 3 [(0, .ref (ad 0)), (1, .int v48_1)] → W p l e (headSpec (wt2 yX14_mark cX14_mark 3 none) ({ frames := 2, cells := 0, slots := 0, locals := 44 })).room s m ([.ref (ad 0)] : List Value).toArray below meth c H locs 0 0 (MQ below (va_Qv (fun (u : MS) => Q u ∧ wfM u ∧ shy S u) (fun (u : MS) (t : State) => qE g ad A u t) A) ([.ref (ad 0)] : List Value).toArray s 0 0 A) (F0 m 48 ls []) := by
          intro n48
          induction n48 with
          | zero => intro U48 v48_1 H locs ls h hsh hR hl; unfold w_mark_L48 at h; exact h.elim
          | succ n48 ih_48 =>
            intro U48 v48_1 H locs ls h hsh hR hl
            unfold w_mark_L48 at h
            refine lv_iload_n hx hb dX14_mark_48 rfl (lv_at hl 1 rfl) ?_
            refine lv_aload_n hx hb dX14_mark_49 rfl (lv_at hl 0 rfl) ?_
            refine va_get (D := rD g) (ci := 13) (v := .int (qI U48 0 129)) (C := RX14) (T := TX14) (N := 143) hx hb hts in2X14 hown hR.K hR.P 0 (hR.at14 hR.w.1) rfl 129 (by decide) (hts _ kx_691) (fun _ h9 => h9) rfl dX14_mark_50 ?_
            refine lv_icmp_gt (tgt := 69) hx hb dX14_mark_53 (by decide) (fun c2 => ?_) (fun c2 => ?_)
            · replace h := h.1 (k_lt rfl rfl c2)
              refine lv_iconst (v := 0) hx hb dX14_mark_69 (by decide) ?_
              refine lv_istore_n (lv' := [(1, .int 0), (0, .ref (ad 0))]) hx hb dX14_mark_70 rfl hl (by decide) rfl (fun ls hl => ?_)
              have J_71 : ∀ (n71 : Nat) (U71 : MS) (v71_1 : Int32) (H : Heap) (locs : List Loc) (ls : Array Slot), w_mark_L71 Q n71 U71 v71_1 → shy S U71 → Rep g ad A s U71 H locs → lv_has ls 3 [(0, .ref (ad 0)), (1, .int v71_1)] → W p l e (headSpec (wt2 yX14_mark cX14_mark 3 none) ({ frames := 2, cells := 0, slots := 0, locals := 44 })).room s m ([.ref (ad 0)] : List Value).toArray below meth c H locs 0 0 (MQ below (va_Qv (fun (u : MS) => Q u ∧ wfM u ∧ shy S u) (fun (u : MS) (t : State) => qE g ad A u t) A) ([.ref (ad 0)] : List Value).toArray s 0 0 A) (F0 m 71 ls []) := by
                intro n71
                induction n71 with
                | zero => intro U71 v71_1 H locs ls h hsh hR hl; unfold w_mark_L71 at h; exact h.elim
                | succ n71 ih_71 =>
                  intro U71 v71_1 H locs ls h hsh hR hl
                  unfold w_mark_L71 at h
                  refine lv_iload_n hx hb dX14_mark_71 rfl (lv_at hl 1 rfl) ?_
                  refine lv_aload_n hx hb dX14_mark_72 rfl (lv_at hl 0 rfl) ?_
                  refine va_get (D := rD g) (ci := 13) (v := .int (qI U71 0 129)) (C := RX14) (T := TX14) (N := 143) hx hb hts in2X14 hown hR.K hR.P 0 (hR.at14 hR.w.1) rfl 129 (by decide) (hts _ kx_691) (fun _ h9 => h9) rfl dX14_mark_73 ?_
                  refine lv_icmp_ge (tgt := 126) hx hb dX14_mark_76 (by decide) (fun c3 => ?_) (fun c3 => ?_)
                  · replace h := h.1 (k_le rfl rfl c3)
                    refine lv_iconst (v := 0) hx hb dX14_mark_126 (by decide) ?_
                    refine lv_istore_n (lv' := [(1, .int 0), (0, .ref (ad 0))]) hx hb dX14_mark_127 rfl hl (by decide) rfl (fun ls hl => ?_)
                    have J_128 : ∀ (n128 : Nat) (U128 : MS) (v128_1 : Int32) (H : Heap) (locs : List Loc) (ls : Array Slot), w_mark_L128 Q n128 U128 v128_1 → shy S U128 → Rep g ad A s U128 H locs → lv_has ls 3 [(0, .ref (ad 0)), (1, .int v128_1)] → W p l e (headSpec (wt2 yX14_mark cX14_mark 3 none) ({ frames := 2, cells := 0, slots := 0, locals := 44 })).room s m ([.ref (ad 0)] : List Value).toArray below meth c H locs 0 0 (MQ below (va_Qv (fun (u : MS) => Q u ∧ wfM u ∧ shy S u) (fun (u : MS) (t : State) => qE g ad A u t) A) ([.ref (ad 0)] : List Value).toArray s 0 0 A) (F0 m 128 ls []) := by
                      intro n128
                      induction n128 with
                      | zero => intro U128 v128_1 H locs ls h hsh hR hl; unfold w_mark_L128 at h; exact h.elim
                      | succ n128 ih_128 =>
                        intro U128 v128_1 H locs ls h hsh hR hl
                        unfold w_mark_L128 at h
                        refine lv_iload_n hx hb dX14_mark_128 rfl (lv_at hl 1 rfl) ?_
                        refine lv_aload_n hx hb dX14_mark_129 rfl (lv_at hl 0 rfl) ?_
                        refine va_get (D := rD g) (ci := 13) (v := .int (qI U128 0 135)) (C := RX14) (T := TX14) (N := 143) hx hb hts in2X14 hown hR.K hR.P 0 (hR.at14 hR.w.1) rfl 135 (by decide) (hts _ kx_704) (fun _ h9 => h9) rfl dX14_mark_130 ?_
                        refine lv_icmp_ge (tgt := 202) hx hb dX14_mark_133 (by decide) (fun c4 => ?_) (fun c4 => ?_)
                        · replace h := h.1 (k_le rfl rfl c4)
                          exact W.vret hx hb hr (fun t9 ht9 hW9 => ⟨⟨U128, rfl, ⟨h, hR.w, hsh⟩, ⟨by rw [ht9]; exact hR.P, hR.D⟩⟩, hR.sS.F ht9⟩) hR.sS.2.2 dX14_mark_202
                        · replace h := h.2 (k_nle rfl rfl c4)
                          refine lv_aload_n hx hb dX14_mark_136 rfl (lv_at hl 0 rfl) ?_
                          refine va_get (D := rD g) (ci := 13) (v := .ref (ad 86)) (C := RX14) (T := TX14) (N := 143) hx hb hts in2X14 hown hR.K hR.P 0 (hR.at14 hR.w.1) rfl 134 (by decide) (hts _ kx_701) (fun _ h9 => h9) (congrArg (fun z => some (vf ad z)) (hR.w.2.1 _ fin_134).1) dX14_mark_137 ?_
                          refine lv_iload_n hx hb dX14_mark_140 rfl (lv_at hl 1 rfl) ?_
                          obtain ⟨hv5, h⟩ := h
                          refine va_zald hx hb hR.K hR.P 86 2 (hR.atZ (hR.w.2.1 _ fin_134).2.1) rfl (k_ixN (k_ix (n := 16) (x := v128_1) (a := v128_1.toInt) rfl hv5) (hR.w.2.1 _ fin_134).2.2) dX14_mark_141 ?_
                          refine lv_topi (fun z6 ez6 => ?_)
                          obtain rfl : z6 = (qI U128 86 v128_1.toInt.toNat) := ez6
                          have J_196 : ∀ (U196 : MS) (v196_1 : Int32) (H : Heap) (locs : List Loc) (ls : Array Slot), w_mark_J196 Q (w_mark_L128 Q n128) U196 v196_1 → shy S U196 → Rep g ad A s U196 H locs → lv_has ls 3 [(0, .ref (ad 0)), (1, .int v196_1)] → W p l e (headSpec (wt2 yX14_mark cX14_mark 3 none) ({ frames := 2, cells := 0, slots := 0, locals := 44 })).room s m ([.ref (ad 0)] : List Value).toArray below meth c H locs 0 0 (MQ below (va_Qv (fun (u : MS) => Q u ∧ wfM u ∧ shy S u) (fun (u : MS) (t : State) => qE g ad A u t) A) ([.ref (ad 0)] : List Value).toArray s 0 0 A) (F0 m 196 ls []) := by
                            intro U196 v196_1 H locs ls h hsh hR hl
                            unfold w_mark_J196 at h
                            obtain ⟨a7, ea7⟩ : ∃ z, z = (v196_1 + Int32.ofInt 1) := ⟨_, rfl⟩
                            replace h := h a7 ea7
                            refine lv_iinc (v := a7) (lv' := [(1, .int a7), (0, .ref (ad 0))]) hx hb dX14_mark_196 hl (k := 1) rfl ea7.symm (by decide) rfl (fun ls hl => ?_)
                            refine lv_goto (tgt := 128) hx hb dX14_mark_199 (by decide) ?_
                            exact ih_128 U196 a7 _ _ ls h  hsh hR (lv_sub hl [1, 0] rfl)
                          refine lv_if_eq (tgt := 148) hx hb dX14_mark_142 (by decide) (fun c8 => ?_) (fun c8 => ?_)
                          · replace h := h.1 (k_eq rfl (by decide) c8)
                            refine lv_aload_n hx hb dX14_mark_148 rfl (lv_at hl 0 rfl) ?_
                            refine va_get (D := rD g) (ci := 13) (v := .ref (ad 87)) (C := RX14) (T := TX14) (N := 143) hx hb hts in2X14 hown hR.K hR.P 0 (hR.at14 hR.w.1) rfl 136 (by decide) (hts _ kx_705) (fun _ h9 => h9) (congrArg (fun z => some (vf ad z)) (hR.w.2.1 _ fin_136).1) dX14_mark_149 ?_
                            refine lv_aload_n hx hb dX14_mark_152 rfl (lv_at hl 0 rfl) ?_
                            refine lv_aload_n hx hb dX14_mark_153 rfl (lv_at hl 0 rfl) ?_
                            refine va_get (D := rD g) (ci := 13) (v := .ref (ad 82)) (C := RX14) (T := TX14) (N := 143) hx hb hts in2X14 hown hR.K hR.P 0 (hR.at14 hR.w.1) rfl 130 (by decide) (hts _ kx_702) (fun _ h9 => h9) (congrArg (fun z => some (vf ad z)) (hR.w.2.1 _ fin_130).1) dX14_mark_154 ?_
                            refine lv_iload_n hx hb dX14_mark_157 rfl (lv_at hl 1 rfl) ?_
                            obtain ⟨hv9, h⟩ := h
                            refine va_iald hx hb hR.K hR.P 82 1 (hR.atI (hR.w.2.1 _ fin_130).2.1) rfl (k_ixN (k_ix (n := 16) (x := v128_1) (a := v128_1.toInt) rfl hv9) (hR.w.2.1 _ fin_130).2.2) dX14_mark_158 ?_
                            refine lv_topi (fun z10 ez10 => ?_)
                            obtain rfl : z10 = (qI U128 82 v128_1.toInt.toNat) := ez10
                            obtain ⟨Q11, h0, h⟩ := h
                            have hFc := rfree hR hA
                            refine va_calli (va_runV (As := [.int (qI U128 82 v128_1.toInt.toNat)]) (rest := [.ref (ad 87)]) ⟨hx, hb, hml, hown, hts⟩ (r_here l g ad H.size U128 (qI U128 82 v128_1.toInt.toNat) hR.w  Q11 h0) (cwV 1 hts (gd2_V kx_693 kx_694 kx_695 kx_177 kx_696) rfl rfl rfl (by decide +kernel) ⟨Nat.le_of_ble_eq_true rfl, Nat.le_of_ble_eq_true rfl⟩) ⟨rblind, va_recv hR.K hR.P (ci := 13) (q0 := 0) rfl (hR.at14 hR.w.1), fun U hU hW9 => rmk hU hW9 hR hex hE hFc⟩ rfl rfl hl.1 rfl (lv_room (Nat.le_of_ble_eq_true rfl)) dX14_mark_159 ⟨Nat.le_of_ble_eq_true rfl, Nat.le_of_ble_eq_true rfl⟩) hR.sS (fun q _ h => hFc q h) hFc (fun r12 S13 t9 H1 locs ht9 hvm9 hw9 hB9 hz9 hk9 hS => ?_)
                            obtain ⟨hq14, hw9, hs9⟩ := hw9
                            have hR : Rep g ad A s S13 H1 locs := hR.call ht9 hB9 hw9 hS hFc
                            have hsh := hsh.tr hs9
                            replace h := h r12 S13 hq14
                            clear hB9 hz9 hk9 hvm9 ht9 hw9 hs9 hS
                            generalize H1 = H at hR ⊢
                            refine lv_iconst (v := 1) hx hb dX14_mark_162 (by decide) ?_
                            obtain ⟨hv15, h⟩ := h
                            refine va_zast hx hb hR.K hR.P hR.D hR.sS 87 2 (hR.atZ (hR.w.2.1 _ fin_136).2.1) rfl (k_ixN (k_ix (n := 1201) (x := r12) (a := r12.toInt) rfl hv15) (hR.w.2.1 _ fin_136).2.2) dX14_mark_163 (fun H locs hP hD hS => ?_)
                            have hR : Rep g ad A s (wI S13 87 r12.toInt.toNat (vp_nar .boolean (1 : Int32))) H locs := hR.aZ (hR.w.2.1 _ fin_136).2.1 hP hD hS
                            obtain ⟨S16, eS16⟩ : ∃ z, z = wI S13 87 r12.toInt.toNat (vp_nar .boolean (1 : Int32)) := ⟨_, rfl⟩
                            rw [← eS16] at hR
                            replace h := h S16 eS16
                            have hsh : shy S S16 := by rw [eS16]; exact hsh
                            refine lv_aload_n hx hb dX14_mark_164 rfl (lv_at hl 0 rfl) ?_
                            refine va_get (D := rD g) (ci := 13) (v := .ref (ad 87)) (C := RX14) (T := TX14) (N := 143) hx hb hts in2X14 hown hR.K hR.P 0 (hR.at14 hR.w.1) rfl 136 (by decide) (hts _ kx_705) (fun _ h9 => h9) (congrArg (fun z => some (vf ad z)) (hR.w.2.1 _ fin_136).1) dX14_mark_165 ?_
                            refine lv_aload_n hx hb dX14_mark_168 rfl (lv_at hl 0 rfl) ?_
                            refine lv_aload_n hx hb dX14_mark_169 rfl (lv_at hl 0 rfl) ?_
                            refine va_get (D := rD g) (ci := 13) (v := .ref (ad 83)) (C := RX14) (T := TX14) (N := 143) hx hb hts in2X14 hown hR.K hR.P 0 (hR.at14 hR.w.1) rfl 131 (by decide) (hts _ kx_703) (fun _ h9 => h9) (congrArg (fun z => some (vf ad z)) (hR.w.2.1 _ fin_131).1) dX14_mark_170 ?_
                            refine lv_iload_n hx hb dX14_mark_173 rfl (lv_at hl 1 rfl) ?_
                            obtain ⟨hv17, h⟩ := h
                            refine va_iald hx hb hR.K hR.P 83 1 (hR.atI (hR.w.2.1 _ fin_131).2.1) rfl (k_ixN (k_ix (n := 16) (x := v128_1) (a := v128_1.toInt) rfl hv17) (hR.w.2.1 _ fin_131).2.2) dX14_mark_174 ?_
                            refine lv_topi (fun z18 ez18 => ?_)
                            obtain rfl : z18 = (qI S16 83 v128_1.toInt.toNat) := ez18
                            obtain ⟨Q19, h0, h⟩ := h
                            have hFc := rfree hR hA
                            refine va_calli (va_runV (As := [.int (qI S16 83 v128_1.toInt.toNat)]) (rest := [.ref (ad 87)]) ⟨hx, hb, hml, hown, hts⟩ (r_here l g ad H.size S16 (qI S16 83 v128_1.toInt.toNat) hR.w  Q19 h0) (cwV 1 hts (gd2_V kx_693 kx_694 kx_695 kx_177 kx_696) rfl rfl rfl (by decide +kernel) ⟨Nat.le_of_ble_eq_true rfl, Nat.le_of_ble_eq_true rfl⟩) ⟨rblind, va_recv hR.K hR.P (ci := 13) (q0 := 0) rfl (hR.at14 hR.w.1), fun U hU hW9 => rmk hU hW9 hR hex hE hFc⟩ rfl rfl hl.1 rfl (lv_room (Nat.le_of_ble_eq_true rfl)) dX14_mark_175 ⟨Nat.le_of_ble_eq_true rfl, Nat.le_of_ble_eq_true rfl⟩) hR.sS (fun q _ h => hFc q h) hFc (fun r20 S21 t9 H1 locs ht9 hvm9 hw9 hB9 hz9 hk9 hS => ?_)
                            obtain ⟨hq22, hw9, hs9⟩ := hw9
                            have hR : Rep g ad A s S21 H1 locs := hR.call ht9 hB9 hw9 hS hFc
                            have hsh := hsh.tr hs9
                            replace h := h r20 S21 hq22
                            clear hB9 hz9 hk9 hvm9 ht9 hw9 hs9 hS
                            generalize H1 = H at hR ⊢
                            refine lv_iconst (v := 1) hx hb dX14_mark_178 (by decide) ?_
                            obtain ⟨hv23, h⟩ := h
                            refine va_zast hx hb hR.K hR.P hR.D hR.sS 87 2 (hR.atZ (hR.w.2.1 _ fin_136).2.1) rfl (k_ixN (k_ix (n := 1201) (x := r20) (a := r20.toInt) rfl hv23) (hR.w.2.1 _ fin_136).2.2) dX14_mark_179 (fun H locs hP hD hS => ?_)
                            have hR : Rep g ad A s (wI S21 87 r20.toInt.toNat (vp_nar .boolean (1 : Int32))) H locs := hR.aZ (hR.w.2.1 _ fin_136).2.1 hP hD hS
                            obtain ⟨S24, eS24⟩ : ∃ z, z = wI S21 87 r20.toInt.toNat (vp_nar .boolean (1 : Int32)) := ⟨_, rfl⟩
                            rw [← eS24] at hR
                            replace h := h S24 eS24
                            have hsh : shy S S24 := by rw [eS24]; exact hsh
                            refine lv_aload_n hx hb dX14_mark_180 rfl (lv_at hl 0 rfl) ?_
                            refine va_get (D := rD g) (ci := 13) (v := .ref (ad 87)) (C := RX14) (T := TX14) (N := 143) hx hb hts in2X14 hown hR.K hR.P 0 (hR.at14 hR.w.1) rfl 136 (by decide) (hts _ kx_705) (fun _ h9 => h9) (congrArg (fun z => some (vf ad z)) (hR.w.2.1 _ fin_136).1) dX14_mark_181 ?_
                            refine lv_aload_n hx hb dX14_mark_184 rfl (lv_at hl 0 rfl) ?_
                            refine lv_aload_n hx hb dX14_mark_185 rfl (lv_at hl 0 rfl) ?_
                            refine va_get (D := rD g) (ci := 13) (v := .ref (ad 84)) (C := RX14) (T := TX14) (N := 143) hx hb hts in2X14 hown hR.K hR.P 0 (hR.at14 hR.w.1) rfl 132 (by decide) (hts _ kx_706) (fun _ h9 => h9) (congrArg (fun z => some (vf ad z)) (hR.w.2.1 _ fin_132).1) dX14_mark_186 ?_
                            refine lv_iload_n hx hb dX14_mark_189 rfl (lv_at hl 1 rfl) ?_
                            obtain ⟨hv25, h⟩ := h
                            refine va_iald hx hb hR.K hR.P 84 1 (hR.atI (hR.w.2.1 _ fin_132).2.1) rfl (k_ixN (k_ix (n := 16) (x := v128_1) (a := v128_1.toInt) rfl hv25) (hR.w.2.1 _ fin_132).2.2) dX14_mark_190 ?_
                            refine lv_topi (fun z26 ez26 => ?_)
                            obtain rfl : z26 = (qI S24 84 v128_1.toInt.toNat) := ez26
                            obtain ⟨Q27, h0, h⟩ := h
                            have hFc := rfree hR hA
                            refine va_calli (va_runV (As := [.int (qI S24 84 v128_1.toInt.toNat)]) (rest := [.ref (ad 87)]) ⟨hx, hb, hml, hown, hts⟩ (r_here l g ad H.size S24 (qI S24 84 v128_1.toInt.toNat) hR.w  Q27 h0) (cwV 1 hts (gd2_V kx_693 kx_694 kx_695 kx_177 kx_696) rfl rfl rfl (by decide +kernel) ⟨Nat.le_of_ble_eq_true rfl, Nat.le_of_ble_eq_true rfl⟩) ⟨rblind, va_recv hR.K hR.P (ci := 13) (q0 := 0) rfl (hR.at14 hR.w.1), fun U hU hW9 => rmk hU hW9 hR hex hE hFc⟩ rfl rfl hl.1 rfl (lv_room (Nat.le_of_ble_eq_true rfl)) dX14_mark_191 ⟨Nat.le_of_ble_eq_true rfl, Nat.le_of_ble_eq_true rfl⟩) hR.sS (fun q _ h => hFc q h) hFc (fun r28 S29 t9 H1 locs ht9 hvm9 hw9 hB9 hz9 hk9 hS => ?_)
                            obtain ⟨hq30, hw9, hs9⟩ := hw9
                            have hR : Rep g ad A s S29 H1 locs := hR.call ht9 hB9 hw9 hS hFc
                            have hsh := hsh.tr hs9
                            replace h := h r28 S29 hq30
                            clear hB9 hz9 hk9 hvm9 ht9 hw9 hs9 hS
                            generalize H1 = H at hR ⊢
                            refine lv_iconst (v := 1) hx hb dX14_mark_194 (by decide) ?_
                            obtain ⟨hv31, h⟩ := h
                            refine va_zast hx hb hR.K hR.P hR.D hR.sS 87 2 (hR.atZ (hR.w.2.1 _ fin_136).2.1) rfl (k_ixN (k_ix (n := 1201) (x := r28) (a := r28.toInt) rfl hv31) (hR.w.2.1 _ fin_136).2.2) dX14_mark_195 (fun H locs hP hD hS => ?_)
                            have hR : Rep g ad A s (wI S29 87 r28.toInt.toNat (vp_nar .boolean (1 : Int32))) H locs := hR.aZ (hR.w.2.1 _ fin_136).2.1 hP hD hS
                            obtain ⟨S32, eS32⟩ : ∃ z, z = wI S29 87 r28.toInt.toNat (vp_nar .boolean (1 : Int32)) := ⟨_, rfl⟩
                            rw [← eS32] at hR
                            replace h := h S32 eS32
                            have hsh : shy S S32 := by rw [eS32]; exact hsh
                            exact J_196 S32 v128_1 _ _ ls h  hsh hR (lv_sub hl [0, 1] rfl)
                          · replace h := h.2 (k_ne rfl (by decide) c8)
                            refine lv_goto (tgt := 196) hx hb dX14_mark_145 (by decide) ?_
                            exact J_196 U128 v128_1 _ _ ls h  hsh hR (lv_sub hl [0, 1] rfl)
                    obtain ⟨n9, h⟩ := h
                    exact J_128 n9 U71 0 _ _ ls h  hsh hR (lv_sub hl [1, 0] rfl)
                  · replace h := h.2 (k_nle rfl rfl c3)
                    refine lv_aload_n hx hb dX14_mark_79 rfl (lv_at hl 0 rfl) ?_
                    refine va_get (D := rD g) (ci := 13) (v := .ref (ad 81)) (C := RX14) (T := TX14) (N := 143) hx hb hts in2X14 hown hR.K hR.P 0 (hR.at14 hR.w.1) rfl 128 (by decide) (hts _ kx_692) (fun _ h9 => h9) (congrArg (fun z => some (vf ad z)) (hR.w.2.1 _ fin_128).1) dX14_mark_80 ?_
                    refine lv_iload_n hx hb dX14_mark_83 rfl (lv_at hl 1 rfl) ?_
                    obtain ⟨hv33, h⟩ := h
                    refine va_zald hx hb hR.K hR.P 81 2 (hR.atZ (hR.w.2.1 _ fin_128).2.1) rfl (k_ixN (k_ix (n := 1200) (x := v71_1) (a := v71_1.toInt) rfl hv33) (hR.w.2.1 _ fin_128).2.2) dX14_mark_84 ?_
                    refine lv_topi (fun z34 ez34 => ?_)
                    obtain rfl : z34 = (qI U71 81 v71_1.toInt.toNat) := ez34
                    have J_120 : ∀ (U120 : MS) (v120_1 : Int32) (H : Heap) (locs : List Loc) (ls : Array Slot), w_mark_J120 Q (w_mark_L71 Q n71) U120 v120_1 → shy S U120 → Rep g ad A s U120 H locs → lv_has ls 3 [(0, .ref (ad 0)), (1, .int v120_1)] → W p l e (headSpec (wt2 yX14_mark cX14_mark 3 none) ({ frames := 2, cells := 0, slots := 0, locals := 44 })).room s m ([.ref (ad 0)] : List Value).toArray below meth c H locs 0 0 (MQ below (va_Qv (fun (u : MS) => Q u ∧ wfM u ∧ shy S u) (fun (u : MS) (t : State) => qE g ad A u t) A) ([.ref (ad 0)] : List Value).toArray s 0 0 A) (F0 m 120 ls []) := by
                      intro U120 v120_1 H locs ls h hsh hR hl
                      unfold w_mark_J120 at h
                      obtain ⟨a35, ea35⟩ : ∃ z, z = (v120_1 + Int32.ofInt 1) := ⟨_, rfl⟩
                      replace h := h a35 ea35
                      refine lv_iinc (v := a35) (lv' := [(1, .int a35), (0, .ref (ad 0))]) hx hb dX14_mark_120 hl (k := 1) rfl ea35.symm (by decide) rfl (fun ls hl => ?_)
                      refine lv_goto (tgt := 71) hx hb dX14_mark_123 (by decide) ?_
                      exact ih_71 U120 a35 _ _ ls h  hsh hR (lv_sub hl [1, 0] rfl)
                    refine lv_if_eq (tgt := 91) hx hb dX14_mark_85 (by decide) (fun c36 => ?_) (fun c36 => ?_)
                    · replace h := h.1 (k_eq rfl (by decide) c36)
                      refine lv_iconst (v := 0) hx hb dX14_mark_91 (by decide) ?_
                      refine lv_istore_n (lv' := [(2, .int 0), (0, .ref (ad 0)), (1, .int v71_1)]) hx hb dX14_mark_92 rfl hl (by decide) rfl (fun ls hl => ?_)
                      have J_93 : ∀ (n93 : Nat) (U93 : MS) (v93_1 : Int32) (v93_2 : Int32) (H : Heap) (locs : List Loc) (ls : Array Slot), w_mark_L93 Q (w_mark_L71 Q n71) n93 U93 v93_1 v93_2 → shy S U93 → Rep g ad A s U93 H locs → lv_has ls 3 [(0, .ref (ad 0)), (1, .int v93_1), (2, .int v93_2)] → W p l e (headSpec (wt2 yX14_mark cX14_mark 3 none) ({ frames := 2, cells := 0, slots := 0, locals := 44 })).room s m ([.ref (ad 0)] : List Value).toArray below meth c H locs 0 0 (MQ below (va_Qv (fun (u : MS) => Q u ∧ wfM u ∧ shy S u) (fun (u : MS) (t : State) => qE g ad A u t) A) ([.ref (ad 0)] : List Value).toArray s 0 0 A) (F0 m 93 ls []) := by
                        intro n93
                        induction n93 with
                        | zero => intro U93 v93_1 v93_2 H locs ls h hsh hR hl; unfold w_mark_L93 at h; exact h.elim
                        | succ n93 ih_93 =>
                          intro U93 v93_1 v93_2 H locs ls h hsh hR hl
                          unfold w_mark_L93 at h
                          refine lv_iload_n hx hb dX14_mark_93 rfl (lv_at hl 2 rfl) ?_
                          refine lv_aload_n hx hb dX14_mark_94 rfl (lv_at hl 0 rfl) ?_
                          refine lv_iload_n hx hb dX14_mark_95 rfl (lv_at hl 1 rfl) ?_
                          obtain ⟨hv37, h⟩ := h
                          have hFc := rfree hR hA
                          refine va_calli (va_runV (As := [.int v93_1]) (rest := [.int v93_2]) ⟨hx, hb, hml, hown, hts⟩ (r_waysOf l g ad H.size U93 v93_1 hR.w  hv37) (cwV 1 hts (gd2_V kx_707 kx_708 kx_709 kx_177 kx_710) rfl rfl rfl (by decide +kernel) ⟨Nat.le_of_ble_eq_true rfl, Nat.le_of_ble_eq_true rfl⟩) ⟨rblind, va_recv hR.K hR.P (ci := 13) (q0 := 0) rfl (hR.at14 hR.w.1), fun U hU hW9 => rmk hU hW9 hR hex hE hFc⟩ rfl rfl hl.1 rfl (lv_room (Nat.le_of_ble_eq_true rfl)) dX14_mark_96 ⟨Nat.le_of_ble_eq_true rfl, Nat.le_of_ble_eq_true rfl⟩) hR.sS (fun q _ h => hFc q h) hFc (fun r38 u9 t9 H1 locs ht9 hvm9 hw9 hB9 hz9 hk9 hS => ?_)
                          have hR : Rep g ad A s U93 H1 locs := hR.call ht9 hB9 hR.w hS hFc
                          obtain rfl : r38 = (f_waysOf U93 v93_1) := hw9
                          clear hB9 hz9 hk9 hvm9 ht9 hS
                          generalize H1 = H at hR ⊢
                          refine lv_icmp_ge (tgt := 120) hx hb dX14_mark_99 (by decide) (fun c40 => ?_) (fun c40 => ?_)
                          · replace h := h.1 (k_le rfl rfl c40)
                            exact J_120 U93 v93_1 _ _ ls h  hsh hR (lv_sub hl [0, 1] rfl)
                          · replace h := h.2 (k_nle rfl rfl c40)
                            refine lv_aload_n hx hb dX14_mark_102 rfl (lv_at hl 0 rfl) ?_
                            refine va_get (D := rD g) (ci := 13) (v := .ref (ad 87)) (C := RX14) (T := TX14) (N := 143) hx hb hts in2X14 hown hR.K hR.P 0 (hR.at14 hR.w.1) rfl 136 (by decide) (hts _ kx_705) (fun _ h9 => h9) (congrArg (fun z => some (vf ad z)) (hR.w.2.1 _ fin_136).1) dX14_mark_103 ?_
                            refine lv_aload_n hx hb dX14_mark_106 rfl (lv_at hl 0 rfl) ?_
                            refine lv_iload_n hx hb dX14_mark_107 rfl (lv_at hl 1 rfl) ?_
                            refine lv_iload_n hx hb dX14_mark_108 rfl (lv_at hl 2 rfl) ?_
                            obtain ⟨Q41, h0, h⟩ := h
                            have hFc := rfree hR hA
                            refine va_calli (va_runV (As := [.int v93_1, .int v93_2]) (rest := [.ref (ad 87)]) ⟨hx, hb, hml, hown, hts⟩ (r_wayOf l g ad H.size U93 v93_1 v93_2 hR.w  Q41 h0) (cwV 2 hts (gd2_V kx_711 kx_712 kx_713 kx_177 kx_714) rfl rfl rfl (by decide +kernel) ⟨Nat.le_of_ble_eq_true rfl, Nat.le_of_ble_eq_true rfl⟩) ⟨rblind, va_recv hR.K hR.P (ci := 13) (q0 := 0) rfl (hR.at14 hR.w.1), fun U hU hW9 => rmk hU hW9 hR hex hE hFc⟩ rfl rfl hl.1 rfl (lv_room (Nat.le_of_ble_eq_true rfl)) dX14_mark_109 ⟨Nat.le_of_ble_eq_true rfl, Nat.le_of_ble_eq_true rfl⟩) hR.sS (fun q _ h => hFc q h) hFc (fun r42 S43 t9 H1 locs ht9 hvm9 hw9 hB9 hz9 hk9 hS => ?_)
                            obtain ⟨hq44, hw9, hs9⟩ := hw9
                            have hR : Rep g ad A s S43 H1 locs := hR.call ht9 hB9 hw9 hS hFc
                            have hsh := hsh.tr hs9
                            replace h := h r42 S43 hq44
                            clear hB9 hz9 hk9 hvm9 ht9 hw9 hs9 hS
                            generalize H1 = H at hR ⊢
                            refine lv_iconst (v := 1) hx hb dX14_mark_112 (by decide) ?_
                            obtain ⟨hv45, h⟩ := h
                            refine va_zast hx hb hR.K hR.P hR.D hR.sS 87 2 (hR.atZ (hR.w.2.1 _ fin_136).2.1) rfl (k_ixN (k_ix (n := 1201) (x := r42) (a := r42.toInt) rfl hv45) (hR.w.2.1 _ fin_136).2.2) dX14_mark_113 (fun H locs hP hD hS => ?_)
                            have hR : Rep g ad A s (wI S43 87 r42.toInt.toNat (vp_nar .boolean (1 : Int32))) H locs := hR.aZ (hR.w.2.1 _ fin_136).2.1 hP hD hS
                            obtain ⟨S46, eS46⟩ : ∃ z, z = wI S43 87 r42.toInt.toNat (vp_nar .boolean (1 : Int32)) := ⟨_, rfl⟩
                            rw [← eS46] at hR
                            replace h := h S46 eS46
                            have hsh : shy S S46 := by rw [eS46]; exact hsh
                            obtain ⟨a47, ea47⟩ : ∃ z, z = (v93_2 + Int32.ofInt 1) := ⟨_, rfl⟩
                            replace h := h a47 ea47
                            refine lv_iinc (v := a47) (lv' := [(2, .int a47), (0, .ref (ad 0)), (1, .int v93_1)]) hx hb dX14_mark_114 hl (k := 2) rfl ea47.symm (by decide) rfl (fun ls hl => ?_)
                            refine lv_goto (tgt := 93) hx hb dX14_mark_117 (by decide) ?_
                            exact ih_93 S46 v93_1 a47 _ _ ls h  hsh hR (lv_sub hl [1, 2, 0] rfl)
                      obtain ⟨n9, h⟩ := h
                      exact J_93 n9 U71 v71_1 0 _ _ ls h  hsh hR (lv_sub hl [1, 2, 0] rfl)
                    · replace h := h.2 (k_ne rfl (by decide) c36)
                      refine lv_goto (tgt := 120) hx hb dX14_mark_88 (by decide) ?_
                      exact J_120 U71 v71_1 _ _ ls h  hsh hR (lv_sub hl [0, 1] rfl)
              obtain ⟨n9, h⟩ := h
              exact J_71 n9 U48 0 _ _ ls h  hsh hR (lv_sub hl [1, 0] rfl)
            · replace h := h.2 (k_nlt rfl rfl c2)
              refine lv_aload_n hx hb dX14_mark_56 rfl (lv_at hl 0 rfl) ?_
              refine va_get (D := rD g) (ci := 13) (v := .ref (ad 87)) (C := RX14) (T := TX14) (N := 143) hx hb hts in2X14 hown hR.K hR.P 0 (hR.at14 hR.w.1) rfl 136 (by decide) (hts _ kx_705) (fun _ h9 => h9) (congrArg (fun z => some (vf ad z)) (hR.w.2.1 _ fin_136).1) dX14_mark_57 ?_
              refine lv_iload_n hx hb dX14_mark_60 rfl (lv_at hl 1 rfl) ?_
              refine lv_iconst (v := 0) hx hb dX14_mark_61 (by decide) ?_
              obtain ⟨hv48, h⟩ := h
              refine va_zast hx hb hR.K hR.P hR.D hR.sS 87 2 (hR.atZ (hR.w.2.1 _ fin_136).2.1) rfl (k_ixN (k_ix (n := 1201) (x := v48_1) (a := v48_1.toInt) rfl hv48) (hR.w.2.1 _ fin_136).2.2) dX14_mark_62 (fun H locs hP hD hS => ?_)
              have hR : Rep g ad A s (wI U48 87 v48_1.toInt.toNat (vp_nar .boolean (0 : Int32))) H locs := hR.aZ (hR.w.2.1 _ fin_136).2.1 hP hD hS
              obtain ⟨S49, eS49⟩ : ∃ z, z = wI U48 87 v48_1.toInt.toNat (vp_nar .boolean (0 : Int32)) := ⟨_, rfl⟩
              rw [← eS49] at hR
              replace h := h S49 eS49
              have hsh : shy S S49 := by rw [eS49]; exact hsh
              obtain ⟨a50, ea50⟩ : ∃ z, z = (v48_1 + Int32.ofInt 1) := ⟨_, rfl⟩
              replace h := h a50 ea50
              refine lv_iinc (v := a50) (lv' := [(1, .int a50), (0, .ref (ad 0))]) hx hb dX14_mark_63 hl (k := 1) rfl ea50.symm (by decide) rfl (fun ls hl => ?_)
              refine lv_goto (tgt := 48) hx hb dX14_mark_66 (by decide) ?_
              exact ih_48 S49 a50 _ _ ls h  hsh hR (lv_sub hl [1, 0] rfl)
        obtain ⟨n9, h⟩ := h
        exact J_48 n9 U2 0 _ _ ls h  hsh hR (lv_sub hl [1, 0] rfl)
      · replace h := h.2 (k_nle rfl rfl c1)
        refine lv_aload_n hx hb dX14_mark_10 rfl (lv_at hl 0 rfl) ?_
        refine lv_aload_n hx hb dX14_mark_11 rfl (lv_at hl 0 rfl) ?_
        refine va_get (D := rD g) (ci := 13) (v := .ref (ad 82)) (C := RX14) (T := TX14) (N := 143) hx hb hts in2X14 hown hR.K hR.P 0 (hR.at14 hR.w.1) rfl 130 (by decide) (hts _ kx_702) (fun _ h9 => h9) (congrArg (fun z => some (vf ad z)) (hR.w.2.1 _ fin_130).1) dX14_mark_12 ?_
        refine lv_iload_n hx hb dX14_mark_15 rfl (lv_at hl 1 rfl) ?_
        obtain ⟨hv51, h⟩ := h
        refine va_iald hx hb hR.K hR.P 82 1 (hR.atI (hR.w.2.1 _ fin_130).2.1) rfl (k_ixN (k_ix (n := 16) (x := v2_1) (a := v2_1.toInt) rfl hv51) (hR.w.2.1 _ fin_130).2.2) dX14_mark_16 ?_
        refine lv_topi (fun z52 ez52 => ?_)
        obtain rfl : z52 = (qI U2 82 v2_1.toInt.toNat) := ez52
        obtain ⟨Q53, h0, h⟩ := h
        have hFc := rfree hR hA
        refine va_calli (va_runV (As := [.int (qI U2 82 v2_1.toInt.toNat)]) (rest := []) ⟨hx, hb, hml, hown, hts⟩ (r_here l g ad H.size U2 (qI U2 82 v2_1.toInt.toNat) hR.w  Q53 h0) (cwV 1 hts (gd2_V kx_693 kx_694 kx_695 kx_177 kx_696) rfl rfl rfl (by decide +kernel) ⟨Nat.le_of_ble_eq_true rfl, Nat.le_of_ble_eq_true rfl⟩) ⟨rblind, va_recv hR.K hR.P (ci := 13) (q0 := 0) rfl (hR.at14 hR.w.1), fun U hU hW9 => rmk hU hW9 hR hex hE hFc⟩ rfl rfl hl.1 rfl (lv_room (Nat.le_of_ble_eq_true rfl)) dX14_mark_17 ⟨Nat.le_of_ble_eq_true rfl, Nat.le_of_ble_eq_true rfl⟩) hR.sS (fun q _ h => hFc q h) hFc (fun r54 S55 t9 H1 locs ht9 hvm9 hw9 hB9 hz9 hk9 hS => ?_)
        obtain ⟨hq56, hw9, hs9⟩ := hw9
        have hR : Rep g ad A s S55 H1 locs := hR.call ht9 hB9 hw9 hS hFc
        have hsh := hsh.tr hs9
        replace h := h r54 S55 hq56
        clear hB9 hz9 hk9 hvm9 ht9 hw9 hs9 hS
        generalize H1 = H at hR ⊢
        refine lv_aload_n hx hb dX14_mark_20 rfl (lv_at hl 0 rfl) ?_
        refine lv_aload_n hx hb dX14_mark_21 rfl (lv_at hl 0 rfl) ?_
        refine va_get (D := rD g) (ci := 13) (v := .ref (ad 83)) (C := RX14) (T := TX14) (N := 143) hx hb hts in2X14 hown hR.K hR.P 0 (hR.at14 hR.w.1) rfl 131 (by decide) (hts _ kx_703) (fun _ h9 => h9) (congrArg (fun z => some (vf ad z)) (hR.w.2.1 _ fin_131).1) dX14_mark_22 ?_
        refine lv_iload_n hx hb dX14_mark_25 rfl (lv_at hl 1 rfl) ?_
        obtain ⟨hv57, h⟩ := h
        refine va_iald hx hb hR.K hR.P 83 1 (hR.atI (hR.w.2.1 _ fin_131).2.1) rfl (k_ixN (k_ix (n := 16) (x := v2_1) (a := v2_1.toInt) rfl hv57) (hR.w.2.1 _ fin_131).2.2) dX14_mark_26 ?_
        refine lv_topi (fun z58 ez58 => ?_)
        obtain rfl : z58 = (qI S55 83 v2_1.toInt.toNat) := ez58
        obtain ⟨Q59, h0, h⟩ := h
        have hFc := rfree hR hA
        refine va_calli (va_runV (As := [.int (qI S55 83 v2_1.toInt.toNat)]) (rest := [.int r54]) ⟨hx, hb, hml, hown, hts⟩ (r_here l g ad H.size S55 (qI S55 83 v2_1.toInt.toNat) hR.w  Q59 h0) (cwV 1 hts (gd2_V kx_693 kx_694 kx_695 kx_177 kx_696) rfl rfl rfl (by decide +kernel) ⟨Nat.le_of_ble_eq_true rfl, Nat.le_of_ble_eq_true rfl⟩) ⟨rblind, va_recv hR.K hR.P (ci := 13) (q0 := 0) rfl (hR.at14 hR.w.1), fun U hU hW9 => rmk hU hW9 hR hex hE hFc⟩ rfl rfl hl.1 rfl (lv_room (Nat.le_of_ble_eq_true rfl)) dX14_mark_27 ⟨Nat.le_of_ble_eq_true rfl, Nat.le_of_ble_eq_true rfl⟩) hR.sS (fun q _ h => hFc q h) hFc (fun r60 S61 t9 H1 locs ht9 hvm9 hw9 hB9 hz9 hk9 hS => ?_)
        obtain ⟨hq62, hw9, hs9⟩ := hw9
        have hR : Rep g ad A s S61 H1 locs := hR.call ht9 hB9 hw9 hS hFc
        have hsh := hsh.tr hs9
        replace h := h r60 S61 hq62
        clear hB9 hz9 hk9 hvm9 ht9 hw9 hs9 hS
        generalize H1 = H at hR ⊢
        have J_40 : ∀ (U40 : MS) (v40_1 : Int32) (H : Heap) (locs : List Loc) (ls : Array Slot), w_mark_J40 Q (w_mark_L2 Q n2) U40 v40_1 → shy S U40 → Rep g ad A s U40 H locs → lv_has ls 3 [(0, .ref (ad 0)), (1, .int v40_1)] → W p l e (headSpec (wt2 yX14_mark cX14_mark 3 none) ({ frames := 2, cells := 0, slots := 0, locals := 44 })).room s m ([.ref (ad 0)] : List Value).toArray below meth c H locs 0 0 (MQ below (va_Qv (fun (u : MS) => Q u ∧ wfM u ∧ shy S u) (fun (u : MS) (t : State) => qE g ad A u t) A) ([.ref (ad 0)] : List Value).toArray s 0 0 A) (F0 m 40 ls []) := by
          intro U40 v40_1 H locs ls h hsh hR hl
          unfold w_mark_J40 at h
          obtain ⟨a63, ea63⟩ : ∃ z, z = (v40_1 + Int32.ofInt 1) := ⟨_, rfl⟩
          replace h := h a63 ea63
          refine lv_iinc (v := a63) (lv' := [(1, .int a63), (0, .ref (ad 0))]) hx hb dX14_mark_40 hl (k := 1) rfl ea63.symm (by decide) rfl (fun ls hl => ?_)
          refine lv_goto (tgt := 2) hx hb dX14_mark_43 (by decide) ?_
          exact ih_2 U40 a63 _ _ ls h  hsh hR (lv_sub hl [1, 0] rfl)
        refine lv_icmp_lt (tgt := 40) hx hb dX14_mark_30 (by decide) (fun c64 => ?_) (fun c64 => ?_)
        · replace h := h.1 (k_lt rfl rfl c64)
          exact J_40 S61 v2_1 _ _ ls h  hsh hR (lv_sub hl [0, 1] rfl)
        · replace h := h.2 (k_nlt rfl rfl c64)
          refine lv_aload_n hx hb dX14_mark_33 rfl (lv_at hl 0 rfl) ?_
          refine va_get (D := rD g) (ci := 13) (v := .ref (ad 86)) (C := RX14) (T := TX14) (N := 143) hx hb hts in2X14 hown hR.K hR.P 0 (hR.at14 hR.w.1) rfl 134 (by decide) (hts _ kx_701) (fun _ h9 => h9) (congrArg (fun z => some (vf ad z)) (hR.w.2.1 _ fin_134).1) dX14_mark_34 ?_
          refine lv_iload_n hx hb dX14_mark_37 rfl (lv_at hl 1 rfl) ?_
          refine lv_iconst (v := 1) hx hb dX14_mark_38 (by decide) ?_
          obtain ⟨hv65, h⟩ := h
          refine va_zast hx hb hR.K hR.P hR.D hR.sS 86 2 (hR.atZ (hR.w.2.1 _ fin_134).2.1) rfl (k_ixN (k_ix (n := 16) (x := v2_1) (a := v2_1.toInt) rfl hv65) (hR.w.2.1 _ fin_134).2.2) dX14_mark_39 (fun H locs hP hD hS => ?_)
          have hR : Rep g ad A s (wI S61 86 v2_1.toInt.toNat (vp_nar .boolean (1 : Int32))) H locs := hR.aZ (hR.w.2.1 _ fin_134).2.1 hP hD hS
          obtain ⟨S66, eS66⟩ : ∃ z, z = wI S61 86 v2_1.toInt.toNat (vp_nar .boolean (1 : Int32)) := ⟨_, rfl⟩
          rw [← eS66] at hR
          replace h := h S66 eS66
          have hsh : shy S S66 := by rw [eS66]; exact hsh
          exact J_40 S66 v2_1 _ _ ls h  hsh hR (lv_sub hl [0, 1] rfl)
  obtain ⟨n9, h⟩ := h
  exact J_2 n9 S 0 _ _ ls h  hsh hR (lv_sub hl [1, 0] rfl)
