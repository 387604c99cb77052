def w_entries_J131 (Q : MS → Prop) (E : MS → Prop) (k2 : MS → Int32 → Prop) (U131 : MS) (v131_1 : Int32) (v131_4 : Int32) : Prop := (((0 : Int) ≤ v131_1.toInt ∧ v131_1.toInt < 502) ∧ (∃ Q16 EQ16, w_must U131 v131_4 (6 : Int32) (qI U131 5 v131_1.toInt.toNat) Q16 EQ16 ∧ (∀ S17, Q16 S17 → (∀ a19 : Int32, a19 = (v131_1 + Int32.ofInt 1) → k2 S17 a19)) ∧ (∀ u9, EQ16 u9 → E u9)))
def w_entries_J129 (Q : MS → Prop) (E : MS → Prop) (k2 : MS → Int32 → Prop) (U129 : MS) (t129_0 : Int32) (v129_1 : Int32) : Prop := w_entries_J131 Q E k2 U129 v129_1 t129_0
def w_entries_J128 (Q : MS → Prop) (E : MS → Prop) (k2 : MS → Int32 → Prop) (U128 : MS) (v128_1 : Int32) : Prop := w_entries_J129 Q E k2 U128 0 v128_1
def w_entries_J104 (Q : MS → Prop) (E : MS → Prop) (k2 : MS → Int32 → Prop) (U104 : MS) (v104_1 : Int32) (v104_2 : Int32) (v104_3 : Int32) : Prop := (d_isEntry U104 v104_2 (7 : Int32) ∧ (((f_isEntry U104 v104_2 (7 : Int32)).toInt = 0 → w_entries_J128 Q E k2 U104 v104_1) ∧ (¬ (f_isEntry U104 v104_2 (7 : Int32)).toInt = 0 → (d_isEntry U104 v104_3 (12 : Int32) ∧ (((f_isEntry U104 v104_3 (12 : Int32)).toInt = 0 → w_entries_J128 Q E k2 U104 v104_1) ∧ (¬ (f_isEntry U104 v104_3 (12 : Int32)).toInt = 0 → w_entries_J129 Q E k2 U104 1 v104_1))))))
def w_entries_J82 (Q : MS → Prop) (E : MS → Prop) (k2 : MS → Int32 → Prop) (U82 : MS) (v82_1 : Int32) (v82_2 : Int32) (v82_3 : Int32) (v82_4 : Int32) : Prop := (((0 : Int) ≤ v82_1.toInt ∧ v82_1.toInt < 502) ∧ (((qI U82 4 v82_1.toInt.toNat).toInt = 9 → w_entries_J104 Q E k2 U82 v82_1 v82_2 v82_3) ∧ (¬ (qI U82 4 v82_1.toInt.toNat).toInt = 9 → (((0 : Int) ≤ v82_1.toInt ∧ v82_1.toInt < 502) ∧ (((qI U82 4 v82_1.toInt.toNat).toInt = 10 → w_entries_J104 Q E k2 U82 v82_1 v82_2 v82_3) ∧ (¬ (qI U82 4 v82_1.toInt.toNat).toInt = 10 → w_entries_J131 Q E k2 U82 v82_1 v82_4))))))
def w_entries_J80 (Q : MS → Prop) (E : MS → Prop) (k2 : MS → Int32 → Prop) (U80 : MS) (t80_0 : Int32) (v80_1 : Int32) (v80_2 : Int32) (v80_3 : Int32) : Prop := w_entries_J82 Q E k2 U80 v80_1 v80_2 v80_3 t80_0
def w_entries_J79 (Q : MS → Prop) (E : MS → Prop) (k2 : MS → Int32 → Prop) (U79 : MS) (v79_1 : Int32) (v79_2 : Int32) (v79_3 : Int32) : Prop := w_entries_J80 Q E k2 U79 0 v79_1 v79_2 v79_3
def w_entries_J46 (Q : MS → Prop) (E : MS → Prop) (k2 : MS → Int32 → Prop) (U46 : MS) (v46_1 : Int32) (v46_2 : Int32) (v46_3 : Int32) (v46_4 : Int32) : Prop := (((0 : Int) ≤ v46_1.toInt ∧ v46_1.toInt < 502) ∧ (((qI U46 4 v46_1.toInt.toNat).toInt = 12 → (d_isEntry U46 v46_2 (1 : Int32) ∧ (((f_isEntry U46 v46_2 (1 : Int32)).toInt = 0 → w_entries_J79 Q E k2 U46 v46_1 v46_2 v46_3) ∧ (¬ (f_isEntry U46 v46_2 (1 : Int32)).toInt = 0 → (d_isEntry U46 v46_3 (1 : Int32) ∧ (((f_isEntry U46 v46_3 (1 : Int32)).toInt = 0 → w_entries_J79 Q E k2 U46 v46_1 v46_2 v46_3) ∧ (¬ (f_isEntry U46 v46_3 (1 : Int32)).toInt = 0 → w_entries_J80 Q E k2 U46 1 v46_1 v46_2 v46_3))))))) ∧ (¬ (qI U46 4 v46_1.toInt.toNat).toInt = 12 → w_entries_J82 Q E k2 U46 v46_1 v46_2 v46_3 v46_4)))
def w_entries_L2 (Q : MS → Prop) (E : MS → Prop) : Nat → MS → Int32 → Prop
  | 0, _, _ => False
  | n2 + 1, U2, v2_1 => (((qI U2 0 14).toInt ≤ v2_1.toInt → Q U2) ∧ (¬ (qI U2 0 14).toInt ≤ v2_1.toInt → (((0 : Int) ≤ v2_1.toInt ∧ v2_1.toInt < 502) ∧ (∀ a4 : Int32, a4 = (qI U2 6 v2_1.toInt.toNat) → (((0 : Int) ≤ v2_1.toInt ∧ v2_1.toInt < 502) ∧ (∀ a7 : Int32, a7 = (qI U2 7 v2_1.toInt.toNat) → (((0 : Int) ≤ v2_1.toInt ∧ v2_1.toInt < 502) ∧ (((qI U2 4 v2_1.toInt.toNat).toInt = 7 → (d_isEntry U2 a4 (1 : Int32) ∧ (∀ a45 : Int32, a45 = (f_isEntry U2 a4 (1 : Int32)) → w_entries_J46 Q E (w_entries_L2 Q E n2) U2 v2_1 a4 a7 a45))) ∧ (¬ (qI U2 4 v2_1.toInt.toNat).toInt = 7 → w_entries_J46 Q E (w_entries_L2 Q E n2) U2 v2_1 a4 a7 1)))))))))
def w_entries (S : MS) (Q : MS → Prop) (E : MS → Prop) : Prop := (∃ n, w_entries_L2 Q E n S 1)
set_option maxHeartbeats 2000000 in
set_option maxRecDepth 100000 in
theorem r_entries (l : Launch) (g : Gr) (ad : Nat → Nat) (sz : Nat) (S : MS) (hw : wfM S) (Q : MS → Prop) (E : MS → Prop) (h : w_entries S Q E) : vx_Met l yX14_entries (wt2 yX14_entries cX14_entries 5 none) ({ frames := 2, cells := 0, slots := 0, locals := 45 }) (va_Pc [.ref (ad 0)] (st_R g ad sz S)) (va_Qv (fun (u : MS) => Q u ∧ wfM u ∧ shy S u) (fun (u : MS) (t : State) => qE g ad (va_A (Wd g ad S) sz) u t) (va_A (Wd g ad S) sz)) (vx_X (fun (u : MS) => E u ∧ wfM u ∧ shy S u) (fun (n9 : String) (u : MS) (t : State) => n9 = RJxb5711 ∧ qE g ad (va_A (Wd g ad S) sz) u t) (va_A (Wd g ad S) sz)) 0 0 (va_A (Wd g ad S) sz) := by
  refine vx_ofW (cc := cX14_entries) (maxL := 5) (ret := none) (by decide) rfl ?_
  intro p e s m args below meth c s₁ B hml hnt hv
  obtain ⟨rfl, hsz, hP, hK, hD0, hex, hE⟩ := hv
  have hx := B.exec
  have hb := B.bytes
  have hr := B.returns
  have hlocks := B.notSynchronized
  have hts0 := atoms_spec (ws := wt2 yX14_entries cX14_entries 5 none) B.pre
  have hts : ∀ w ∈ tb2, w.before _ s = true := fun w h => hts0 w (List.mem_cons_of_mem _ h)
  have hown : s.vm.findClass RX14 = some m.cls := findClass_of_methodNamed B.named
  subst hsz
  have hD := hD0.self (sz := s.heap.size)
  generalize hAe : va_A (Wd g ad S) s.heap.size = A at hD hE ⊢
  have hA : ∀ q : Nat, s.heap.size ≤ q → A q := fun q h => by rw [← hAe]; exact Or.inr h
  have hR : Rep g ad A s S s.heap [] := ⟨hK, hP, hD, va_S.rf, hw⟩
  clear hK hP hD hD0
  have hl := lv_entry ([.ref (ad 0)]) (n := 5) (Nat.le_of_ble_eq_true rfl)
  rw [lg_entry_eq]
  generalize (lg_sl ([.ref (ad 0)]) ++ List.replicate (5 - (lg_sl ([.ref (ad 0)])).length) Slot.unset).toArray = ls at hl ⊢
  have hl : lv_has ls 5 [(0, .ref (ad 0))] := hl
  have hsh : shy S S := shy.rf
  unfold w_entries at h
  refine lv_iconst (v := 1) hx hb dX14_entries_0 (by decide) ?_
  refine lv_istore_n (lv' := [(1, .int 1), (0, .ref (ad 0))]) hx hb dX14_entries_1 rfl hl (by decide) rfl (fun ls hl => ?_)
  have J_2 : ∀ (n2 : Nat) (U2 : MS) (v2_1 : Int32) (H : Heap) (locs : List Loc) (ls : Array Slot), w_entries_L2 Q E n2 U2 v2_1 → shy S U2 → Rep g ad A s U2 H locs → lv_has ls 5 [(0, .ref (ad 0)), (1, .int v2_1)] → W p l e (headSpec (wt2 yX14_entries cX14_entries 5 none) ({ frames := 2, cells := 0, slots := 0, locals := 45 })).room s m ([.ref (ad 0)] : List Value).toArray below meth c H locs 0 0 (vx_MQ below (va_Qv (fun (u : MS) => Q u ∧ wfM u ∧ shy S u) (fun (u : MS) (t : State) => qE g ad A u t) A) ((vx_X (fun (u : MS) => E u ∧ wfM u ∧ shy S u) (fun (n9 : String) (u : MS) (t : State) => n9 = RJxb5711 ∧ qE g ad A u t) A)) ([.ref (ad 0)] : List Value).toArray s 0 0 A) (F0 m 2 ls []) := by
    intro n2
    induction n2 with
    | zero => intro U2 v2_1 H locs ls h hsh hR hl; unfold w_entries_L2 at h; exact h.elim
    | succ n2 ih_2 =>
      intro U2 v2_1 H locs ls h hsh hR hl
      unfold w_entries_L2 at h
      refine lv_iload_n hx hb dX14_entries_2 rfl (lv_at hl 1 rfl) ?_
      refine lv_aload_n hx hb dX14_entries_3 rfl (lv_at hl 0 rfl) ?_
      refine va_get (D := rD g) (ci := 13) (v := .int (qI U2 0 14)) (C := RX14) (T := TX14) (N := 143) hx hb hts in2X14 hown hR.K hR.P 0 (hR.at14 hR.w.1) rfl 14 (by decide) (hts _ kx_197) (fun _ h9 => h9) rfl dX14_entries_4 ?_
      refine lv_icmp_ge (tgt := 151) hx hb dX14_entries_7 (by decide) (fun c1 => ?_) (fun c1 => ?_)
      · replace h := h.1 (k_le rfl rfl c1)
        exact vx_ret (W.vret hx hb hr (fun t9 ht9 hW9 => ⟨⟨U2, rfl, ⟨h, hR.w, hsh⟩, ⟨by rw [ht9]; exact hR.P, hR.D⟩⟩, hR.sS.F ht9⟩) hR.sS.2.2 dX14_entries_151)
      · replace h := h.2 (k_nle rfl rfl c1)
        refine lv_aload_n hx hb dX14_entries_10 rfl (lv_at hl 0 rfl) ?_
        refine va_get (D := rD g) (ci := 13) (v := .ref (ad 6)) (C := RX14) (T := TX14) (N := 143) hx hb hts in2X14 hown hR.K hR.P 0 (hR.at14 hR.w.1) rfl 17 (by decide) (hts _ kx_208) (fun _ h9 => h9) (congrArg (fun z => some (vf ad z)) (hR.w.2.1 _ fin_17).1) dX14_entries_11 ?_
        refine lv_iload_n hx hb dX14_entries_14 rfl (lv_at hl 1 rfl) ?_
        obtain ⟨hv2, h⟩ := h
        refine va_iald hx hb hR.K hR.P 6 1 (hR.atI (hR.w.2.1 _ fin_17).2.1) rfl (k_ixN (k_ix (n := 502) (x := v2_1) (a := v2_1.toInt) rfl hv2) (hR.w.2.1 _ fin_17).2.2) dX14_entries_15 ?_
        refine lv_topi (fun z3 ez3 => ?_)
        obtain rfl : z3 = (qI U2 6 v2_1.toInt.toNat) := ez3
        obtain ⟨a4, ea4⟩ : ∃ z, z = (qI U2 6 v2_1.toInt.toNat) := ⟨_, rfl⟩
        rw [← ea4]
        replace h := h a4 ea4
        refine lv_istore_n (lv' := [(2, .int a4), (0, .ref (ad 0)), (1, .int v2_1)]) hx hb dX14_entries_16 rfl hl (by decide) rfl (fun ls hl => ?_)
        refine lv_aload_n hx hb dX14_entries_17 rfl (lv_at hl 1 rfl) ?_
        refine va_get (D := rD g) (ci := 13) (v := .ref (ad 7)) (C := RX14) (T := TX14) (N := 143) hx hb hts in2X14 hown hR.K hR.P 0 (hR.at14 hR.w.1) rfl 18 (by decide) (hts _ kx_209) (fun _ h9 => h9) (congrArg (fun z => some (vf ad z)) (hR.w.2.1 _ fin_18).1) dX14_entries_18 ?_
        refine lv_iload_n hx hb dX14_entries_21 rfl (lv_at hl 2 rfl) ?_
        obtain ⟨hv5, h⟩ := h
        refine va_iald hx hb hR.K hR.P 7 1 (hR.atI (hR.w.2.1 _ fin_18).2.1) rfl (k_ixN (k_ix (n := 502) (x := v2_1) (a := v2_1.toInt) rfl hv5) (hR.w.2.1 _ fin_18).2.2) dX14_entries_22 ?_
        refine lv_topi (fun z6 ez6 => ?_)
        obtain rfl : z6 = (qI U2 7 v2_1.toInt.toNat) := ez6
        obtain ⟨a7, ea7⟩ : ∃ z, z = (qI U2 7 v2_1.toInt.toNat) := ⟨_, rfl⟩
        rw [← ea7]
        replace h := h a7 ea7
        refine lv_istore_n (lv' := [(3, .int a7), (2, .int a4), (0, .ref (ad 0)), (1, .int v2_1)]) hx hb dX14_entries_23 rfl hl (by decide) rfl (fun ls hl => ?_)
        refine lv_iconst (v := 1) hx hb dX14_entries_24 (by decide) ?_
        refine lv_istore (lv' := [(4, .int 1), (3, .int a7), (2, .int a4), (0, .ref (ad 0)), (1, .int v2_1)]) hx hb dX14_entries_25 hl (by decide) rfl (fun ls hl => ?_)
        refine lv_aload_n hx hb dX14_entries_27 rfl (lv_at hl 3 rfl) ?_
        refine va_get (D := rD g) (ci := 13) (v := .ref (ad 4)) (C := RX14) (T := TX14) (N := 143) hx hb hts in2X14 hown hR.K hR.P 0 (hR.at14 hR.w.1) rfl 15 (by decide) (hts _ kx_202) (fun _ h9 => h9) (congrArg (fun z => some (vf ad z)) (hR.w.2.1 _ fin_15).1) dX14_entries_28 ?_
        refine lv_iload_n hx hb dX14_entries_31 rfl (lv_at hl 4 rfl) ?_
        obtain ⟨hv8, h⟩ := h
        refine va_iald hx hb hR.K hR.P 4 1 (hR.atI (hR.w.2.1 _ fin_15).2.1) rfl (k_ixN (k_ix (n := 502) (x := v2_1) (a := v2_1.toInt) rfl hv8) (hR.w.2.1 _ fin_15).2.2) dX14_entries_32 ?_
        refine lv_topi (fun z9 ez9 => ?_)
        obtain rfl : z9 = (qI U2 4 v2_1.toInt.toNat) := ez9
        refine lv_bipush (v := 7) hx hb dX14_entries_33 (by decide) ?_
        have J_46 : ∀ (U46 : MS) (v46_1 : Int32) (v46_2 : Int32) (v46_3 : Int32) (v46_4 : Int32) (H : Heap) (locs : List Loc) (ls : Array Slot), w_entries_J46 Q E (w_entries_L2 Q E n2) U46 v46_1 v46_2 v46_3 v46_4 → (v46_4 = 0 ∨ v46_4 = 1) → shy S U46 → Rep g ad A s U46 H locs → lv_has ls 5 [(0, .ref (ad 0)), (1, .int v46_1), (2, .int v46_2), (3, .int v46_3), (4, .int v46_4)] → W p l e (headSpec (wt2 yX14_entries cX14_entries 5 none) ({ frames := 2, cells := 0, slots := 0, locals := 45 })).room s m ([.ref (ad 0)] : List Value).toArray below meth c H locs 0 0 (vx_MQ below (va_Qv (fun (u : MS) => Q u ∧ wfM u ∧ shy S u) (fun (u : MS) (t : State) => qE g ad A u t) A) ((vx_X (fun (u : MS) => E u ∧ wfM u ∧ shy S u) (fun (n9 : String) (u : MS) (t : State) => n9 = RJxb5711 ∧ qE g ad A u t) A)) ([.ref (ad 0)] : List Value).toArray s 0 0 A) (F0 m 46 ls []) := by
          intro U46 v46_1 v46_2 v46_3 v46_4 H locs ls h hz_v46_4 hsh hR hl
          unfold w_entries_J46 at h
          refine lv_aload_n hx hb dX14_entries_46 rfl (lv_at hl 0 rfl) ?_
          refine va_get (D := rD g) (ci := 13) (v := .ref (ad 4)) (C := RX14) (T := TX14) (N := 143) hx hb hts in2X14 hown hR.K hR.P 0 (hR.at14 hR.w.1) rfl 15 (by decide) (hts _ kx_202) (fun _ h9 => h9) (congrArg (fun z => some (vf ad z)) (hR.w.2.1 _ fin_15).1) dX14_entries_47 ?_
          refine lv_iload_n hx hb dX14_entries_50 rfl (lv_at hl 1 rfl) ?_
          obtain ⟨hv10, h⟩ := h
          refine va_iald hx hb hR.K hR.P 4 1 (hR.atI (hR.w.2.1 _ fin_15).2.1) rfl (k_ixN (k_ix (n := 502) (x := v46_1) (a := v46_1.toInt) rfl hv10) (hR.w.2.1 _ fin_15).2.2) dX14_entries_51 ?_
          refine lv_topi (fun z11 ez11 => ?_)
          obtain rfl : z11 = (qI U46 4 v46_1.toInt.toNat) := ez11
          refine lv_bipush (v := 12) hx hb dX14_entries_52 (by decide) ?_
          have J_82 : ∀ (U82 : MS) (v82_1 : Int32) (v82_2 : Int32) (v82_3 : Int32) (v82_4 : Int32) (H : Heap) (locs : List Loc) (ls : Array Slot), w_entries_J82 Q E (w_entries_L2 Q E n2) U82 v82_1 v82_2 v82_3 v82_4 → (v82_4 = 0 ∨ v82_4 = 1) → shy S U82 → Rep g ad A s U82 H locs → lv_has ls 5 [(0, .ref (ad 0)), (1, .int v82_1), (2, .int v82_2), (3, .int v82_3), (4, .int v82_4)] → W p l e (headSpec (wt2 yX14_entries cX14_entries 5 none) ({ frames := 2, cells := 0, slots := 0, locals := 45 })).room s m ([.ref (ad 0)] : List Value).toArray below meth c H locs 0 0 (vx_MQ below (va_Qv (fun (u : MS) => Q u ∧ wfM u ∧ shy S u) (fun (u : MS) (t : State) => qE g ad A u t) A) ((vx_X (fun (u : MS) => E u ∧ wfM u ∧ shy S u) (fun (n9 : String) (u : MS) (t : State) => n9 = RJxb5711 ∧ qE g ad A u t) A)) ([.ref (ad 0)] : List Value).toArray s 0 0 A) (F0 m 82 ls []) := by
            intro U82 v82_1 v82_2 v82_3 v82_4 H locs ls h hz_v82_4 hsh hR hl
            unfold w_entries_J82 at h
            refine lv_aload_n hx hb dX14_entries_82 rfl (lv_at hl 0 rfl) ?_
            refine va_get (D := rD g) (ci := 13) (v := .ref (ad 4)) (C := RX14) (T := TX14) (N := 143) hx hb hts in2X14 hown hR.K hR.P 0 (hR.at14 hR.w.1) rfl 15 (by decide) (hts _ kx_202) (fun _ h9 => h9) (congrArg (fun z => some (vf ad z)) (hR.w.2.1 _ fin_15).1) dX14_entries_83 ?_
            refine lv_iload_n hx hb dX14_entries_86 rfl (lv_at hl 1 rfl) ?_
            obtain ⟨hv12, h⟩ := h
            refine va_iald hx hb hR.K hR.P 4 1 (hR.atI (hR.w.2.1 _ fin_15).2.1) rfl (k_ixN (k_ix (n := 502) (x := v82_1) (a := v82_1.toInt) rfl hv12) (hR.w.2.1 _ fin_15).2.2) dX14_entries_87 ?_
            refine lv_topi (fun z13 ez13 => ?_)
            obtain rfl : z13 = (qI U82 4 v82_1.toInt.toNat) := ez13
            refine lv_bipush (v := 9) hx hb dX14_entries_88 (by decide) ?_
            have J_131 : ∀ (U131 : MS) (v131_1 : Int32) (v131_4 : Int32) (H : Heap) (locs : List Loc) (ls : Array Slot), w_entries_J131 Q E (w_entries_L2 Q E n2) U131 v131_1 v131_4 → (v131_4 = 0 ∨ v131_4 = 1) → shy S U131 → Rep g ad A s U131 H locs → lv_has ls 5 [(0, .ref (ad 0)), (1, .int v131_1), (4, .int v131_4)] → W p l e (headSpec (wt2 yX14_entries cX14_entries 5 none) ({ frames := 2, cells := 0, slots := 0, locals := 45 })).room s m ([.ref (ad 0)] : List Value).toArray below meth c H locs 0 0 (vx_MQ below (va_Qv (fun (u : MS) => Q u ∧ wfM u ∧ shy S u) (fun (u : MS) (t : State) => qE g ad A u t) A) ((vx_X (fun (u : MS) => E u ∧ wfM u ∧ shy S u) (fun (n9 : String) (u : MS) (t : State) => n9 = RJxb5711 ∧ qE g ad A u t) A)) ([.ref (ad 0)] : List Value).toArray s 0 0 A) (F0 m 131 ls []) := by
              intro U131 v131_1 v131_4 H locs ls h hz_v131_4 hsh hR hl
              unfold w_entries_J131 at h
              refine lv_aload_n hx hb dX14_entries_131 rfl (lv_at hl 0 rfl) ?_
              refine lv_iload hx hb dX14_entries_132 (lv_at hl 2 rfl) ?_
              refine lv_bipush (v := 6) hx hb dX14_entries_134 (by decide) ?_
              refine lv_aload_n hx hb dX14_entries_136 rfl (lv_at hl 0 rfl) ?_
              refine va_get (D := rD g) (ci := 13) (v := .ref (ad 5)) (C := RX14) (T := TX14) (N := 143) hx hb hts in2X14 hown hR.K hR.P 0 (hR.at14 hR.w.1) rfl 16 (by decide) (hts _ kx_207) (fun _ h9 => h9) (congrArg (fun z => some (vf ad z)) (hR.w.2.1 _ fin_16).1) dX14_entries_137 ?_
              refine lv_iload_n hx hb dX14_entries_140 rfl (lv_at hl 1 rfl) ?_
              obtain ⟨hv14, h⟩ := h
              refine va_iald hx hb hR.K hR.P 5 1 (hR.atI (hR.w.2.1 _ fin_16).2.1) rfl (k_ixN (k_ix (n := 502) (x := v131_1) (a := v131_1.toInt) rfl hv14) (hR.w.2.1 _ fin_16).2.2) dX14_entries_141 ?_
              refine lv_topi (fun z15 ez15 => ?_)
              obtain rfl : z15 = (qI U131 5 v131_1.toInt.toNat) := ez15
              obtain ⟨Q16, EQ16, h0, h⟩ := h
              have hFc := rfree hR hA
              refine vx_callv (vx_runV (As := [.int v131_4, .int 6, .int (qI U131 5 v131_1.toInt.toNat)]) (rest := []) ⟨hx, hb, hml, hown, hts⟩ (r_must l g ad H.size U131 v131_4 (6 : Int32) (qI U131 5 v131_1.toInt.toNat) hR.w hz_v131_4 Q16 EQ16 h0) (cwV 3 hts (gd2_V kx_198 kx_199 kx_200 kx_177 kx_201) rfl rfl rfl (by decide +kernel) ⟨Nat.le_of_ble_eq_true rfl, Nat.le_of_ble_eq_true rfl⟩) ⟨rblind, va_recv hR.K hR.P (ci := 13) (q0 := 0) rfl (hR.at14 hR.w.1), fun U hU hW9 => rmk hU hW9 hR hex hE hFc⟩ rfl rfl hl.1 rfl (lv_room (Nat.le_of_ble_eq_true rfl)) dX14_entries_142 ⟨Nat.le_of_ble_eq_true rfl, Nat.le_of_ble_eq_true rfl⟩) hR.sS (fun q _ h => hFc q h) hFc (fun q _ h => hFc q h) (fun E9 ce9 q9 u9 t9 H1 locs ht9 hvm9 hp9 hB9 hz9 hk9 hS hce9 hcv9 hcl9 => ?_) (fun  S17 t9 H1 locs ht9 hvm9 hw9 hB9 hz9 hk9 hS => ?_)
              · obtain ⟨hp9, hwx, hsx⟩ := hp9
                obtain ⟨rfl, hBx⟩ := hB9
                replace h := h.2 u9 hp9
                have hR : Rep g ad A s u9 H1 locs := hR.call ht9 hBx hwx hS hFc
                have hsh := hsh.tr hsx
                exact vx_out (E := RJxb5711) (q := q9) (fun x h9 => (hnt x h9).elim) hlocks hce9 hcv9 hcl9 (fun t9 ht9 ha9 => ⟨u9, ⟨h, hR.w, hsh⟩, ⟨rfl, by rw [ht9]; exact hR.P, hR.D⟩, hR.sS.F ht9⟩) hR.sS.2.2 (Nat.le_of_ble_eq_true rfl) (Nat.le_of_ble_eq_true rfl)
              · obtain ⟨hq18, hw9, hs9⟩ := hw9
                have hR : Rep g ad A s S17 H1 locs := hR.call ht9 hB9 hw9 hS hFc
                have hsh := hsh.tr hs9
                replace h := h.1  S17 hq18
                clear hB9 hz9 hk9 hvm9 ht9 hw9 hs9 hS
                generalize H1 = H at hR ⊢
                obtain ⟨a19, ea19⟩ : ∃ z, z = (v131_1 + Int32.ofInt 1) := ⟨_, rfl⟩
                replace h := h a19 ea19
                refine lv_iinc (v := a19) (lv' := [(1, .int a19), (0, .ref (ad 0)), (4, .int v131_4)]) hx hb dX14_entries_145 hl (k := 1) rfl ea19.symm (by decide) rfl (fun ls hl => ?_)
                refine lv_goto (tgt := 2) hx hb dX14_entries_148 (by decide) ?_
                exact ih_2 S17 a19 _ _ ls h  hsh hR (lv_sub hl [1, 0] rfl)
            have J_104 : ∀ (U104 : MS) (v104_1 : Int32) (v104_2 : Int32) (v104_3 : Int32) (H : Heap) (locs : List Loc) (ls : Array Slot), w_entries_J104 Q E (w_entries_L2 Q E n2) U104 v104_1 v104_2 v104_3 → shy S U104 → Rep g ad A s U104 H locs → lv_has ls 5 [(0, .ref (ad 0)), (1, .int v104_1), (2, .int v104_2), (3, .int v104_3)] → W p l e (headSpec (wt2 yX14_entries cX14_entries 5 none) ({ frames := 2, cells := 0, slots := 0, locals := 45 })).room s m ([.ref (ad 0)] : List Value).toArray below meth c H locs 0 0 (vx_MQ below (va_Qv (fun (u : MS) => Q u ∧ wfM u ∧ shy S u) (fun (u : MS) (t : State) => qE g ad A u t) A) ((vx_X (fun (u : MS) => E u ∧ wfM u ∧ shy S u) (fun (n9 : String) (u : MS) (t : State) => n9 = RJxb5711 ∧ qE g ad A u t) A)) ([.ref (ad 0)] : List Value).toArray s 0 0 A) (F0 m 104 ls []) := by
              intro U104 v104_1 v104_2 v104_3 H locs ls h hsh hR hl
              unfold w_entries_J104 at h
              refine lv_aload_n hx hb dX14_entries_104 rfl (lv_at hl 0 rfl) ?_
              refine lv_iload_n hx hb dX14_entries_105 rfl (lv_at hl 2 rfl) ?_
              refine lv_bipush (v := 7) hx hb dX14_entries_106 (by decide) ?_
              obtain ⟨hv20, h⟩ := h
              have hFc := rfree hR hA
              refine va_calli (va_runV (As := [.int v104_2, .int 7]) (rest := []) ⟨hx, hb, hml, hown, hts⟩ (r_isEntry l g ad H.size U104 v104_2 (7 : Int32) hR.w  hv20) (cwV 2 hts (gd2_V kx_219 kx_220 kx_221 kx_177 kx_222) rfl rfl rfl (by decide +kernel) ⟨Nat.le_of_ble_eq_true rfl, Nat.le_of_ble_eq_true rfl⟩) ⟨rblind, va_recv hR.K hR.P (ci := 13) (q0 := 0) rfl (hR.at14 hR.w.1), fun U hU hW9 => rmk hU hW9 hR hex hE hFc⟩ rfl rfl hl.1 rfl (lv_room (Nat.le_of_ble_eq_true rfl)) dX14_entries_108 ⟨Nat.le_of_ble_eq_true rfl, Nat.le_of_ble_eq_true rfl⟩) hR.sS (fun q _ h => hFc q h) hFc (fun r21 u9 t9 H1 locs ht9 hvm9 hw9 hB9 hz9 hk9 hS => ?_)
              have hR : Rep g ad A s U104 H1 locs := hR.call ht9 hB9 hR.w hS hFc
              obtain ⟨rfl, hz_r21⟩ := hw9
              clear hB9 hz9 hk9 hvm9 ht9 hS
              generalize H1 = H at hR ⊢
              have J_129 : ∀ (U129 : MS) (t129_0 : Int32) (v129_1 : Int32) (H : Heap) (locs : List Loc) (ls : Array Slot), w_entries_J129 Q E (w_entries_L2 Q E n2) U129 t129_0 v129_1 → (t129_0 = 0 ∨ t129_0 = 1) → shy S U129 → Rep g ad A s U129 H locs → lv_has ls 5 [(0, .ref (ad 0)), (1, .int v129_1)] → W p l e (headSpec (wt2 yX14_entries cX14_entries 5 none) ({ frames := 2, cells := 0, slots := 0, locals := 45 })).room s m ([.ref (ad 0)] : List Value).toArray below meth c H locs 0 0 (vx_MQ below (va_Qv (fun (u : MS) => Q u ∧ wfM u ∧ shy S u) (fun (u : MS) (t : State) => qE g ad A u t) A) ((vx_X (fun (u : MS) => E u ∧ wfM u ∧ shy S u) (fun (n9 : String) (u : MS) (t : State) => n9 = RJxb5711 ∧ qE g ad A u t) A)) ([.ref (ad 0)] : List Value).toArray s 0 0 A) (F0 m 129 ls [.int t129_0]) := by
                intro U129 t129_0 v129_1 H locs ls h hz_t129_0 hsh hR hl
                unfold w_entries_J129 at h
                refine lv_istore (lv' := [(4, .int t129_0), (0, .ref (ad 0)), (1, .int v129_1)]) hx hb dX14_entries_129 hl (by decide) rfl (fun ls hl => ?_)
                exact J_131 U129 v129_1 t129_0 _ _ ls h hz_t129_0 hsh hR (lv_sub hl [1, 2, 0] rfl)
              have J_128 : ∀ (U128 : MS) (v128_1 : Int32) (H : Heap) (locs : List Loc) (ls : Array Slot), w_entries_J128 Q E (w_entries_L2 Q E n2) U128 v128_1 → shy S U128 → Rep g ad A s U128 H locs → lv_has ls 5 [(0, .ref (ad 0)), (1, .int v128_1)] → W p l e (headSpec (wt2 yX14_entries cX14_entries 5 none) ({ frames := 2, cells := 0, slots := 0, locals := 45 })).room s m ([.ref (ad 0)] : List Value).toArray below meth c H locs 0 0 (vx_MQ below (va_Qv (fun (u : MS) => Q u ∧ wfM u ∧ shy S u) (fun (u : MS) (t : State) => qE g ad A u t) A) ((vx_X (fun (u : MS) => E u ∧ wfM u ∧ shy S u) (fun (n9 : String) (u : MS) (t : State) => n9 = RJxb5711 ∧ qE g ad A u t) A)) ([.ref (ad 0)] : List Value).toArray s 0 0 A) (F0 m 128 ls []) := by
                intro U128 v128_1 H locs ls h hsh hR hl
                unfold w_entries_J128 at h
                refine lv_iconst (v := 0) hx hb dX14_entries_128 (by decide) ?_
                exact J_129 U128 0 v128_1 _ _ ls h (Or.inl rfl) hsh hR (lv_sub hl [0, 1] rfl)
              refine lv_if_eq (tgt := 128) hx hb dX14_entries_111 (by decide) (fun c23 => ?_) (fun c23 => ?_)
              · replace h := h.1 (k_eq rfl (by decide) c23)
                exact J_128 U104 v104_1 _ _ ls h  hsh hR (lv_sub hl [0, 1] rfl)
              · replace h := h.2 (k_ne rfl (by decide) c23)
                refine lv_aload_n hx hb dX14_entries_114 rfl (lv_at hl 0 rfl) ?_
                refine lv_iload_n hx hb dX14_entries_115 rfl (lv_at hl 3 rfl) ?_
                refine lv_bipush (v := 12) hx hb dX14_entries_116 (by decide) ?_
                obtain ⟨hv24, h⟩ := h
                have hFc := rfree hR hA
                refine va_calli (va_runV (As := [.int v104_3, .int 12]) (rest := []) ⟨hx, hb, hml, hown, hts⟩ (r_isEntry l g ad H.size U104 v104_3 (12 : Int32) hR.w  hv24) (cwV 2 hts (gd2_V kx_219 kx_220 kx_221 kx_177 kx_222) rfl rfl rfl (by decide +kernel) ⟨Nat.le_of_ble_eq_true rfl, Nat.le_of_ble_eq_true rfl⟩) ⟨rblind, va_recv hR.K hR.P (ci := 13) (q0 := 0) rfl (hR.at14 hR.w.1), fun U hU hW9 => rmk hU hW9 hR hex hE hFc⟩ rfl rfl hl.1 rfl (lv_room (Nat.le_of_ble_eq_true rfl)) dX14_entries_118 ⟨Nat.le_of_ble_eq_true rfl, Nat.le_of_ble_eq_true rfl⟩) hR.sS (fun q _ h => hFc q h) hFc (fun r25 u9 t9 H1 locs ht9 hvm9 hw9 hB9 hz9 hk9 hS => ?_)
                have hR : Rep g ad A s U104 H1 locs := hR.call ht9 hB9 hR.w hS hFc
                obtain ⟨rfl, hz_r25⟩ := hw9
                clear hB9 hz9 hk9 hvm9 ht9 hS
                generalize H1 = H at hR ⊢
                refine lv_if_eq (tgt := 128) hx hb dX14_entries_121 (by decide) (fun c27 => ?_) (fun c27 => ?_)
                · replace h := h.1 (k_eq rfl (by decide) c27)
                  exact J_128 U104 v104_1 _ _ ls h  hsh hR (lv_sub hl [0, 1] rfl)
                · replace h := h.2 (k_ne rfl (by decide) c27)
                  refine lv_iconst (v := 1) hx hb dX14_entries_124 (by decide) ?_
                  refine lv_goto (tgt := 129) hx hb dX14_entries_125 (by decide) ?_
                  exact J_129 U104 1 v104_1 _ _ ls h (Or.inr rfl) hsh hR (lv_sub hl [0, 1] rfl)
            refine lv_icmp_eq (tgt := 104) hx hb dX14_entries_90 (by decide) (fun c28 => ?_) (fun c28 => ?_)
            · replace h := h.1 (k_eq rfl (by decide) c28)
              exact J_104 U82 v82_1 v82_2 v82_3 _ _ ls h  hsh hR (lv_sub hl [0, 1, 2, 3] rfl)
            · replace h := h.2 (k_ne rfl (by decide) c28)
              refine lv_aload_n hx hb dX14_entries_93 rfl (lv_at hl 0 rfl) ?_
              refine va_get (D := rD g) (ci := 13) (v := .ref (ad 4)) (C := RX14) (T := TX14) (N := 143) hx hb hts in2X14 hown hR.K hR.P 0 (hR.at14 hR.w.1) rfl 15 (by decide) (hts _ kx_202) (fun _ h9 => h9) (congrArg (fun z => some (vf ad z)) (hR.w.2.1 _ fin_15).1) dX14_entries_94 ?_
              refine lv_iload_n hx hb dX14_entries_97 rfl (lv_at hl 1 rfl) ?_
              obtain ⟨hv29, h⟩ := h
              refine va_iald hx hb hR.K hR.P 4 1 (hR.atI (hR.w.2.1 _ fin_15).2.1) rfl (k_ixN (k_ix (n := 502) (x := v82_1) (a := v82_1.toInt) rfl hv29) (hR.w.2.1 _ fin_15).2.2) dX14_entries_98 ?_
              refine lv_topi (fun z30 ez30 => ?_)
              obtain rfl : z30 = (qI U82 4 v82_1.toInt.toNat) := ez30
              refine lv_bipush (v := 10) hx hb dX14_entries_99 (by decide) ?_
              refine lv_icmp_ne (tgt := 131) hx hb dX14_entries_101 (by decide) (fun c31 => ?_) (fun c31 => ?_)
              · replace h := h.2 (k_ne rfl (by decide) c31)
                exact J_131 U82 v82_1 v82_4 _ _ ls h hz_v82_4 hsh hR (lv_sub hl [0, 1, 4] rfl)
              · replace h := h.1 (k_eq rfl (by decide) c31)
                exact J_104 U82 v82_1 v82_2 v82_3 _ _ ls h  hsh hR (lv_sub hl [0, 1, 2, 3] rfl)
          refine lv_icmp_ne (tgt := 82) hx hb dX14_entries_54 (by decide) (fun c32 => ?_) (fun c32 => ?_)
          · replace h := h.2 (k_ne rfl (by decide) c32)
            exact J_82 U46 v46_1 v46_2 v46_3 v46_4 _ _ ls h hz_v46_4 hsh hR (lv_sub hl [0, 1, 2, 3, 4] rfl)
          · replace h := h.1 (k_eq rfl (by decide) c32)
            refine lv_aload_n hx hb dX14_entries_57 rfl (lv_at hl 0 rfl) ?_
            refine lv_iload_n hx hb dX14_entries_58 rfl (lv_at hl 2 rfl) ?_
            refine lv_iconst (v := 1) hx hb dX14_entries_59 (by decide) ?_
            obtain ⟨hv33, h⟩ := h
            have hFc := rfree hR hA
            refine va_calli (va_runV (As := [.int v46_2, .int 1]) (rest := []) ⟨hx, hb, hml, hown, hts⟩ (r_isEntry l g ad H.size U46 v46_2 (1 : Int32) hR.w  hv33) (cwV 2 hts (gd2_V kx_219 kx_220 kx_221 kx_177 kx_222) rfl rfl rfl (by decide +kernel) ⟨Nat.le_of_ble_eq_true rfl, Nat.le_of_ble_eq_true rfl⟩) ⟨rblind, va_recv hR.K hR.P (ci := 13) (q0 := 0) rfl (hR.at14 hR.w.1), fun U hU hW9 => rmk hU hW9 hR hex hE hFc⟩ rfl rfl hl.1 rfl (lv_room (Nat.le_of_ble_eq_true rfl)) dX14_entries_60 ⟨Nat.le_of_ble_eq_true rfl, Nat.le_of_ble_eq_true rfl⟩) hR.sS (fun q _ h => hFc q h) hFc (fun r34 u9 t9 H1 locs ht9 hvm9 hw9 hB9 hz9 hk9 hS => ?_)
            have hR : Rep g ad A s U46 H1 locs := hR.call ht9 hB9 hR.w hS hFc
            obtain ⟨rfl, hz_r34⟩ := hw9
            clear hB9 hz9 hk9 hvm9 ht9 hS
            generalize H1 = H at hR ⊢
            have J_80 : ∀ (U80 : MS) (t80_0 : Int32) (v80_1 : Int32) (v80_2 : Int32) (v80_3 : Int32) (H : Heap) (locs : List Loc) (ls : Array Slot), w_entries_J80 Q E (w_entries_L2 Q E n2) U80 t80_0 v80_1 v80_2 v80_3 → (t80_0 = 0 ∨ t80_0 = 1) → shy S U80 → Rep g ad A s U80 H locs → lv_has ls 5 [(0, .ref (ad 0)), (1, .int v80_1), (2, .int v80_2), (3, .int v80_3)] → W p l e (headSpec (wt2 yX14_entries cX14_entries 5 none) ({ frames := 2, cells := 0, slots := 0, locals := 45 })).room s m ([.ref (ad 0)] : List Value).toArray below meth c H locs 0 0 (vx_MQ below (va_Qv (fun (u : MS) => Q u ∧ wfM u ∧ shy S u) (fun (u : MS) (t : State) => qE g ad A u t) A) ((vx_X (fun (u : MS) => E u ∧ wfM u ∧ shy S u) (fun (n9 : String) (u : MS) (t : State) => n9 = RJxb5711 ∧ qE g ad A u t) A)) ([.ref (ad 0)] : List Value).toArray s 0 0 A) (F0 m 80 ls [.int t80_0]) := by
              intro U80 t80_0 v80_1 v80_2 v80_3 H locs ls h hz_t80_0 hsh hR hl
              unfold w_entries_J80 at h
              refine lv_istore (lv' := [(4, .int t80_0), (0, .ref (ad 0)), (1, .int v80_1), (2, .int v80_2), (3, .int v80_3)]) hx hb dX14_entries_80 hl (by decide) rfl (fun ls hl => ?_)
              exact J_82 U80 v80_1 v80_2 v80_3 t80_0 _ _ ls h hz_t80_0 hsh hR (lv_sub hl [1, 2, 3, 4, 0] rfl)
            have J_79 : ∀ (U79 : MS) (v79_1 : Int32) (v79_2 : Int32) (v79_3 : Int32) (H : Heap) (locs : List Loc) (ls : Array Slot), w_entries_J79 Q E (w_entries_L2 Q E n2) U79 v79_1 v79_2 v79_3 → shy S U79 → Rep g ad A s U79 H locs → lv_has ls 5 [(0, .ref (ad 0)), (1, .int v79_1), (2, .int v79_2), (3, .int v79_3)] → W p l e (headSpec (wt2 yX14_entries cX14_entries 5 none) ({ frames := 2, cells := 0, slots := 0, locals := 45 })).room s m ([.ref (ad 0)] : List Value).toArray below meth c H locs 0 0 (vx_MQ below (va_Qv (fun (u : MS) => Q u ∧ wfM u ∧ shy S u) (fun (u : MS) (t : State) => qE g ad A u t) A) ((vx_X (fun (u : MS) => E u ∧ wfM u ∧ shy S u) (fun (n9 : String) (u : MS) (t : State) => n9 = RJxb5711 ∧ qE g ad A u t) A)) ([.ref (ad 0)] : List Value).toArray s 0 0 A) (F0 m 79 ls []) := by
              intro U79 v79_1 v79_2 v79_3 H locs ls h hsh hR hl
              unfold w_entries_J79 at h
              refine lv_iconst (v := 0) hx hb dX14_entries_79 (by decide) ?_
              exact J_80 U79 0 v79_1 v79_2 v79_3 _ _ ls h (Or.inl rfl) hsh hR (lv_sub hl [0, 1, 2, 3] rfl)
            refine lv_if_eq (tgt := 79) hx hb dX14_entries_63 (by decide) (fun c36 => ?_) (fun c36 => ?_)
            · replace h := h.1 (k_eq rfl (by decide) c36)
              exact J_79 U46 v46_1 v46_2 v46_3 _ _ ls h  hsh hR (lv_sub hl [0, 1, 2, 3] rfl)
            · replace h := h.2 (k_ne rfl (by decide) c36)
              refine lv_aload_n hx hb dX14_entries_66 rfl (lv_at hl 0 rfl) ?_
              refine lv_iload_n hx hb dX14_entries_67 rfl (lv_at hl 3 rfl) ?_
              refine lv_iconst (v := 1) hx hb dX14_entries_68 (by decide) ?_
              obtain ⟨hv37, h⟩ := h
              have hFc := rfree hR hA
              refine va_calli (va_runV (As := [.int v46_3, .int 1]) (rest := []) ⟨hx, hb, hml, hown, hts⟩ (r_isEntry l g ad H.size U46 v46_3 (1 : Int32) hR.w  hv37) (cwV 2 hts (gd2_V kx_219 kx_220 kx_221 kx_177 kx_222) rfl rfl rfl (by decide +kernel) ⟨Nat.le_of_ble_eq_true rfl, Nat.le_of_ble_eq_true rfl⟩) ⟨rblind, va_recv hR.K hR.P (ci := 13) (q0 := 0) rfl (hR.at14 hR.w.1), fun U hU hW9 => rmk hU hW9 hR hex hE hFc⟩ rfl rfl hl.1 rfl (lv_room (Nat.le_of_ble_eq_true rfl)) dX14_entries_69 ⟨Nat.le_of_ble_eq_true rfl, Nat.le_of_ble_eq_true rfl⟩) hR.sS (fun q _ h => hFc q h) hFc (fun r38 u9 t9 H1 locs ht9 hvm9 hw9 hB9 hz9 hk9 hS => ?_)
              have hR : Rep g ad A s U46 H1 locs := hR.call ht9 hB9 hR.w hS hFc
              obtain ⟨rfl, hz_r38⟩ := hw9
              clear hB9 hz9 hk9 hvm9 ht9 hS
              generalize H1 = H at hR ⊢
              refine lv_if_eq (tgt := 79) hx hb dX14_entries_72 (by decide) (fun c40 => ?_) (fun c40 => ?_)
              · replace h := h.1 (k_eq rfl (by decide) c40)
                exact J_79 U46 v46_1 v46_2 v46_3 _ _ ls h  hsh hR (lv_sub hl [0, 1, 2, 3] rfl)
              · replace h := h.2 (k_ne rfl (by decide) c40)
                refine lv_iconst (v := 1) hx hb dX14_entries_75 (by decide) ?_
                refine lv_goto (tgt := 80) hx hb dX14_entries_76 (by decide) ?_
                exact J_80 U46 1 v46_1 v46_2 v46_3 _ _ ls h (Or.inr rfl) hsh hR (lv_sub hl [0, 1, 2, 3] rfl)
        refine lv_icmp_ne (tgt := 46) hx hb dX14_entries_35 (by decide) (fun c41 => ?_) (fun c41 => ?_)
        · replace h := h.2 (k_ne rfl (by decide) c41)
          exact J_46 U2 v2_1 a4 a7 1 _ _ ls h (Or.inr rfl) hsh hR (lv_sub hl [3, 4, 2, 1, 0] rfl)
        · replace h := h.1 (k_eq rfl (by decide) c41)
          refine lv_aload_n hx hb dX14_entries_38 rfl (lv_at hl 3 rfl) ?_
          refine lv_iload_n hx hb dX14_entries_39 rfl (lv_at hl 2 rfl) ?_
          refine lv_iconst (v := 1) hx hb dX14_entries_40 (by decide) ?_
          obtain ⟨hv42, h⟩ := h
          have hFc := rfree hR hA
          refine va_calli (va_runV (As := [.int a4, .int 1]) (rest := []) ⟨hx, hb, hml, hown, hts⟩ (r_isEntry l g ad H.size U2 a4 (1 : Int32) hR.w  hv42) (cwV 2 hts (gd2_V kx_219 kx_220 kx_221 kx_177 kx_222) rfl rfl rfl (by decide +kernel) ⟨Nat.le_of_ble_eq_true rfl, Nat.le_of_ble_eq_true rfl⟩) ⟨rblind, va_recv hR.K hR.P (ci := 13) (q0 := 0) rfl (hR.at14 hR.w.1), fun U hU hW9 => rmk hU hW9 hR hex hE hFc⟩ rfl rfl hl.1 rfl (lv_room (Nat.le_of_ble_eq_true rfl)) dX14_entries_41 ⟨Nat.le_of_ble_eq_true rfl, Nat.le_of_ble_eq_true rfl⟩) hR.sS (fun q _ h => hFc q h) hFc (fun r43 u9 t9 H1 locs ht9 hvm9 hw9 hB9 hz9 hk9 hS => ?_)
          have hR : Rep g ad A s U2 H1 locs := hR.call ht9 hB9 hR.w hS hFc
          obtain ⟨rfl, hz_r43⟩ := hw9
          clear hB9 hz9 hk9 hvm9 ht9 hS
          generalize H1 = H at hR ⊢
          obtain ⟨a45, ea45⟩ : ∃ z, z = (f_isEntry U2 a4 (1 : Int32)) := ⟨_, rfl⟩
          rw [← ea45]
          replace h := h a45 ea45
          have hz_a45 : a45 = 0 ∨ a45 = 1 := by rw [ea45]; exact hz_r43
          refine lv_istore (lv' := [(4, .int a45), (3, .int a7), (2, .int a4), (0, .ref (ad 0)), (1, .int v2_1)]) hx hb dX14_entries_44 hl (by decide) rfl (fun ls hl => ?_)
          exact J_46 U2 v2_1 a4 a7 a45 _ _ ls h hz_a45 hsh hR (lv_sub hl [3, 4, 2, 1, 0] rfl)
  obtain ⟨n9, h⟩ := h
  exact J_2 n9 S 1 _ _ ls h  hsh hR (lv_sub hl [1, 0] rfl)
def w_flags_J59 (Q : MS → Prop) (E : MS → Prop) (k30 : MS → Int32 → Prop) (U59 : MS) (t59_0 : Int32) (v59_1 : Int32) : Prop := (((0 : Int) ≤ v59_1.toInt ∧ v59_1.toInt < 48) ∧ (∃ Q15 EQ15, w_must U59 t59_0 (7 : Int32) (qI U59 9 v59_1.toInt.toNat) Q15 EQ15 ∧ (∀ S16, Q15 S16 → (∀ a18 : Int32, a18 = (v59_1 + Int32.ofInt 1) → k30 S16 a18)) ∧ (∀ u9, EQ15 u9 → E u9)))
def w_flags_L30 (Q : MS → Prop) (E : MS → Prop) : Nat → MS → Int32 → Prop
  | 0, _, _ => False
  | n30 + 1, U30, v30_1 => (((qI U30 0 21).toInt ≤ v30_1.toInt → Q U30) ∧ (¬ (qI U30 0 21).toInt ≤ v30_1.toInt → (((0 : Int) ≤ v30_1.toInt ∧ v30_1.toInt < 48) ∧ (d_two U30 (qI U30 9 v30_1.toInt.toNat) ∧ (((f_two U30 (qI U30 9 v30_1.toInt.toNat)).toInt = 9 → w_flags_J59 Q E (w_flags_L30 Q E n30) U30 1 v30_1) ∧ (¬ (f_two U30 (qI U30 9 v30_1.toInt.toNat)).toInt = 9 → w_flags_J59 Q E (w_flags_L30 Q E n30) U30 0 v30_1))))))
def w_flags_J19 (Q : MS → Prop) (E : MS → Prop) (U19 : MS) (t19_0 : Int32) : Prop := (∃ Q4 EQ4, w_must U19 t19_0 (7 : Int32) (qI U19 0 20) Q4 EQ4 ∧ (∀ S5, Q4 S5 → (∃ n, w_flags_L30 Q E n S5 0)) ∧ (∀ u9, EQ4 u9 → E u9))
def w_flags (S : MS) (Q : MS → Prop) (E : MS → Prop) : Prop := (d_two S (qI S 0 20) ∧ (((f_two S (qI S 0 20)).toInt = 33 → w_flags_J19 Q E S 1) ∧ (¬ (f_two S (qI S 0 20)).toInt = 33 → w_flags_J19 Q E S 0)))
set_option maxHeartbeats 2000000 in
set_option maxRecDepth 100000 in
theorem r_flags (l : Launch) (g : Gr) (ad : Nat → Nat) (sz : Nat) (S : MS) (hw : wfM S) (Q : MS → Prop) (E : MS → Prop) (h : w_flags S Q E) : vx_Met l yX14_flags (wt2 yX14_flags cX14_flags 2 none) ({ frames := 2, cells := 0, slots := 0, locals := 45 }) (va_Pc [.ref (ad 0)] (st_R g ad sz S)) (va_Qv (fun (u : MS) => Q u ∧ wfM u ∧ shy S u) (fun (u : MS) (t : State) => qE g ad (va_A (Wd g ad S) sz) u t) (va_A (Wd g ad S) sz)) (vx_X (fun (u : MS) => E u ∧ wfM u ∧ shy S u) (fun (n9 : String) (u : MS) (t : State) => n9 = RJxb5711 ∧ qE g ad (va_A (Wd g ad S) sz) u t) (va_A (Wd g ad S) sz)) 0 0 (va_A (Wd g ad S) sz) := by
  refine vx_ofW (cc := cX14_flags) (maxL := 2) (ret := none) (by decide) rfl ?_
  intro p e s m args below meth c s₁ B hml hnt hv
  obtain ⟨rfl, hsz, hP, hK, hD0, hex, hE⟩ := hv
  have hx := B.exec
  have hb := B.bytes
  have hr := B.returns
  have hlocks := B.notSynchronized
  have hts0 := atoms_spec (ws := wt2 yX14_flags cX14_flags 2 none) B.pre
  have hts : ∀ w ∈ tb2, w.before _ s = true := fun w h => hts0 w (List.mem_cons_of_mem _ h)
  have hown : s.vm.findClass RX14 = some m.cls := findClass_of_methodNamed B.named
  subst hsz
  have hD := hD0.self (sz := s.heap.size)
  generalize hAe : va_A (Wd g ad S) s.heap.size = A at hD hE ⊢
  have hA : ∀ q : Nat, s.heap.size ≤ q → A q := fun q h => by rw [← hAe]; exact Or.inr h
  have hR : Rep g ad A s S s.heap [] := ⟨hK, hP, hD, va_S.rf, hw⟩
  clear hK hP hD hD0
  have hl := lv_entry ([.ref (ad 0)]) (n := 2) (Nat.le_of_ble_eq_true rfl)
  rw [lg_entry_eq]
  generalize (lg_sl ([.ref (ad 0)]) ++ List.replicate (2 - (lg_sl ([.ref (ad 0)])).length) Slot.unset).toArray = ls at hl ⊢
  have hl : lv_has ls 2 [(0, .ref (ad 0))] := hl
  have hsh : shy S S := shy.rf
  unfold w_flags at h
  refine lv_aload_n hx hb dX14_flags_0 rfl (lv_at hl 0 rfl) ?_
  refine lv_aload_n hx hb dX14_flags_1 rfl (lv_at hl 0 rfl) ?_
  refine lv_aload_n hx hb dX14_flags_2 rfl (lv_at hl 0 rfl) ?_
  refine va_get (D := rD g) (ci := 13) (v := .int (qI S 0 20)) (C := RX14) (T := TX14) (N := 143) hx hb hts in2X14 hown hR.K hR.P 0 (hR.at14 hR.w.1) rfl 20 (by decide) (hts _ kx_203) (fun _ h9 => h9) rfl dX14_flags_3 ?_
  obtain ⟨hv1, h⟩ := h
  have hFc := rfree hR hA
  refine va_calli (va_runV (As := [.int (qI S 0 20)]) (rest := [.ref (ad 0)]) ⟨hx, hb, hml, hown, hts⟩ (r_two l g ad s.heap.size S (qI S 0 20) hR.w  hv1) (cwV 1 hts (gd2_V kx_186 kx_187 kx_188 kx_177 kx_189) rfl rfl rfl (by decide +kernel) ⟨Nat.le_of_ble_eq_true rfl, Nat.le_of_ble_eq_true rfl⟩) ⟨rblind, va_recv hR.K hR.P (ci := 13) (q0 := 0) rfl (hR.at14 hR.w.1), fun U hU hW9 => rmk hU hW9 hR hex hE hFc⟩ rfl rfl hl.1 rfl (lv_room (Nat.le_of_ble_eq_true rfl)) dX14_flags_6 ⟨Nat.le_of_ble_eq_true rfl, Nat.le_of_ble_eq_true rfl⟩) hR.sS (fun q _ h => hFc q h) hFc (fun r2 u9 t9 H1 locs ht9 hvm9 hw9 hB9 hz9 hk9 hS => ?_)
  have hR : Rep g ad A s S H1 locs := hR.call ht9 hB9 hR.w hS hFc
  obtain rfl : r2 = (f_two S (qI S 0 20)) := hw9
  clear hB9 hz9 hk9 hvm9 ht9 hS
  generalize H1 = H at hR ⊢
  refine lv_bipush (v := 33) hx hb dX14_flags_9 (by decide) ?_
  have J_19 : ∀ (U19 : MS) (t19_0 : Int32) (H : Heap) (locs : List Loc) (ls : Array Slot), w_flags_J19 Q E U19 t19_0 → (t19_0 = 0 ∨ t19_0 = 1) → shy S U19 → Rep g ad A s U19 H locs → lv_has ls 2 [(0, .ref (ad 0))] → W p l e (headSpec (wt2 yX14_flags cX14_flags 2 none) ({ frames := 2, cells := 0, slots := 0, locals := 45 })).room s m ([.ref (ad 0)] : List Value).toArray below meth c H locs 0 0 (vx_MQ below (va_Qv (fun (u : MS) => Q u ∧ wfM u ∧ shy S u) (fun (u : MS) (t : State) => qE g ad A u t) A) ((vx_X (fun (u : MS) => E u ∧ wfM u ∧ shy S u) (fun (n9 : String) (u : MS) (t : State) => n9 = RJxb5711 ∧ qE g ad A u t) A)) ([.ref (ad 0)] : List Value).toArray s 0 0 A) (F0 m 19 ls [.int t19_0, .ref (ad 0)]) := by
    intro U19 t19_0 H locs ls h hz_t19_0 hsh hR hl
    unfold w_flags_J19 at h
    refine lv_bipush (v := 7) hx hb dX14_flags_19 (by decide) ?_
    refine lv_aload_n hx hb dX14_flags_21 rfl (lv_at hl 0 rfl) ?_
    refine va_get (D := rD g) (ci := 13) (v := .int (qI U19 0 20)) (C := RX14) (T := TX14) (N := 143) hx hb hts in2X14 hown hR.K hR.P 0 (hR.at14 hR.w.1) rfl 20 (by decide) (hts _ kx_203) (fun _ h9 => h9) rfl dX14_flags_22 ?_
    obtain ⟨Q4, EQ4, h0, h⟩ := h
    have hFc := rfree hR hA
    refine vx_callv (vx_runV (As := [.int t19_0, .int 7, .int (qI U19 0 20)]) (rest := []) ⟨hx, hb, hml, hown, hts⟩ (r_must l g ad H.size U19 t19_0 (7 : Int32) (qI U19 0 20) hR.w hz_t19_0 Q4 EQ4 h0) (cwV 3 hts (gd2_V kx_198 kx_199 kx_200 kx_177 kx_201) rfl rfl rfl (by decide +kernel) ⟨Nat.le_of_ble_eq_true rfl, Nat.le_of_ble_eq_true rfl⟩) ⟨rblind, va_recv hR.K hR.P (ci := 13) (q0 := 0) rfl (hR.at14 hR.w.1), fun U hU hW9 => rmk hU hW9 hR hex hE hFc⟩ rfl rfl hl.1 rfl (lv_room (Nat.le_of_ble_eq_true rfl)) dX14_flags_25 ⟨Nat.le_of_ble_eq_true rfl, Nat.le_of_ble_eq_true rfl⟩) hR.sS (fun q _ h => hFc q h) hFc (fun q _ h => hFc q h) (fun E9 ce9 q9 u9 t9 H1 locs ht9 hvm9 hp9 hB9 hz9 hk9 hS hce9 hcv9 hcl9 => ?_) (fun  S5 t9 H1 locs ht9 hvm9 hw9 hB9 hz9 hk9 hS => ?_)
    · obtain ⟨hp9, hwx, hsx⟩ := hp9
      obtain ⟨rfl, hBx⟩ := hB9
      replace h := h.2 u9 hp9
      have hR : Rep g ad A s u9 H1 locs := hR.call ht9 hBx hwx hS hFc
      have hsh := hsh.tr hsx
      exact vx_out (E := RJxb5711) (q := q9) (fun x h9 => (hnt x h9).elim) hlocks hce9 hcv9 hcl9 (fun t9 ht9 ha9 => ⟨u9, ⟨h, hR.w, hsh⟩, ⟨rfl, by rw [ht9]; exact hR.P, hR.D⟩, hR.sS.F ht9⟩) hR.sS.2.2 (Nat.le_of_ble_eq_true rfl) (Nat.le_of_ble_eq_true rfl)
    · obtain ⟨hq6, hw9, hs9⟩ := hw9
      have hR : Rep g ad A s S5 H1 locs := hR.call ht9 hB9 hw9 hS hFc
      have hsh := hsh.tr hs9
      replace h := h.1  S5 hq6
      clear hB9 hz9 hk9 hvm9 ht9 hw9 hs9 hS
      generalize H1 = H at hR ⊢
      refine lv_iconst (v := 0) hx hb dX14_flags_28 (by decide) ?_
      refine lv_istore_n (lv' := [(1, .int 0), (0, .ref (ad 0))]) hx hb dX14_flags_29 rfl hl (by decide) rfl (fun ls hl => ?_)
      have J_30 : ∀ (n30 : Nat) (U30 : MS) (v30_1 : Int32) (H : Heap) (locs : List Loc) (ls : Array Slot), w_flags_L30 Q E n30 U30 v30_1 → shy S U30 → Rep g ad A s U30 H locs → lv_has ls 2 [(0, .ref (ad 0)), (1, .int v30_1)] → W p l e (headSpec (wt2 yX14_flags cX14_flags 2 none) ({ frames := 2, cells := 0, slots := 0, locals := 45 })).room s m ([.ref (ad 0)] : List Value).toArray below meth c H locs 0 0 (vx_MQ below (va_Qv (fun (u : MS) => Q u ∧ wfM u ∧ shy S u) (fun (u : MS) (t : State) => qE g ad A u t) A) ((vx_X (fun (u : MS) => E u ∧ wfM u ∧ shy S u) (fun (n9 : String) (u : MS) (t : State) => n9 = RJxb5711 ∧ qE g ad A u t) A)) ([.ref (ad 0)] : List Value).toArray s 0 0 A) (F0 m 30 ls []) := by
        intro n30
        induction n30 with
        | zero => intro U30 v30_1 H locs ls h hsh hR hl; unfold w_flags_L30 at h; exact h.elim
        | succ n30 ih_30 =>
          intro U30 v30_1 H locs ls h hsh hR hl
          unfold w_flags_L30 at h
          refine lv_iload_n hx hb dX14_flags_30 rfl (lv_at hl 1 rfl) ?_
          refine lv_aload_n hx hb dX14_flags_31 rfl (lv_at hl 0 rfl) ?_
          refine va_get (D := rD g) (ci := 13) (v := .int (qI U30 0 21)) (C := RX14) (T := TX14) (N := 143) hx hb hts in2X14 hown hR.K hR.P 0 (hR.at14 hR.w.1) rfl 21 (by decide) (hts _ kx_205) (fun _ h9 => h9) rfl dX14_flags_32 ?_
          refine lv_icmp_ge (tgt := 76) hx hb dX14_flags_35 (by decide) (fun c7 => ?_) (fun c7 => ?_)
          · replace h := h.1 (k_le rfl rfl c7)
            exact vx_ret (W.vret hx hb hr (fun t9 ht9 hW9 => ⟨⟨U30, rfl, ⟨h, hR.w, hsh⟩, ⟨by rw [ht9]; exact hR.P, hR.D⟩⟩, hR.sS.F ht9⟩) hR.sS.2.2 dX14_flags_76)
          · replace h := h.2 (k_nle rfl rfl c7)
            refine lv_aload_n hx hb dX14_flags_38 rfl (lv_at hl 0 rfl) ?_
            refine lv_aload_n hx hb dX14_flags_39 rfl (lv_at hl 0 rfl) ?_
            refine lv_aload_n hx hb dX14_flags_40 rfl (lv_at hl 0 rfl) ?_
            refine va_get (D := rD g) (ci := 13) (v := .ref (ad 9)) (C := RX14) (T := TX14) (N := 143) hx hb hts in2X14 hown hR.K hR.P 0 (hR.at14 hR.w.1) rfl 24 (by decide) (hts _ kx_210) (fun _ h9 => h9) (congrArg (fun z => some (vf ad z)) (hR.w.2.1 _ fin_24).1) dX14_flags_41 ?_
            refine lv_iload_n hx hb dX14_flags_44 rfl (lv_at hl 1 rfl) ?_
            obtain ⟨hv8, h⟩ := h
            refine va_iald hx hb hR.K hR.P 9 1 (hR.atI (hR.w.2.1 _ fin_24).2.1) rfl (k_ixN (k_ix (n := 48) (x := v30_1) (a := v30_1.toInt) rfl hv8) (hR.w.2.1 _ fin_24).2.2) dX14_flags_45 ?_
            refine lv_topi (fun z9 ez9 => ?_)
            obtain rfl : z9 = (qI U30 9 v30_1.toInt.toNat) := ez9
            obtain ⟨hv10, h⟩ := h
            have hFc := rfree hR hA
            refine va_calli (va_runV (As := [.int (qI U30 9 v30_1.toInt.toNat)]) (rest := [.ref (ad 0)]) ⟨hx, hb, hml, hown, hts⟩ (r_two l g ad H.size U30 (qI U30 9 v30_1.toInt.toNat) hR.w  hv10) (cwV 1 hts (gd2_V kx_186 kx_187 kx_188 kx_177 kx_189) rfl rfl rfl (by decide +kernel) ⟨Nat.le_of_ble_eq_true rfl, Nat.le_of_ble_eq_true rfl⟩) ⟨rblind, va_recv hR.K hR.P (ci := 13) (q0 := 0) rfl (hR.at14 hR.w.1), fun U hU hW9 => rmk hU hW9 hR hex hE hFc⟩ rfl rfl hl.1 rfl (lv_room (Nat.le_of_ble_eq_true rfl)) dX14_flags_46 ⟨Nat.le_of_ble_eq_true rfl, Nat.le_of_ble_eq_true rfl⟩) hR.sS (fun q _ h => hFc q h) hFc (fun r11 u9 t9 H1 locs ht9 hvm9 hw9 hB9 hz9 hk9 hS => ?_)
            have hR : Rep g ad A s U30 H1 locs := hR.call ht9 hB9 hR.w hS hFc
            obtain rfl : r11 = (f_two U30 (qI U30 9 v30_1.toInt.toNat)) := hw9
            clear hB9 hz9 hk9 hvm9 ht9 hS
            generalize H1 = H at hR ⊢
            refine lv_bipush (v := 9) hx hb dX14_flags_49 (by decide) ?_
            have J_59 : ∀ (U59 : MS) (t59_0 : Int32) (v59_1 : Int32) (H : Heap) (locs : List Loc) (ls : Array Slot), w_flags_J59 Q E (w_flags_L30 Q E n30) U59 t59_0 v59_1 → (t59_0 = 0 ∨ t59_0 = 1) → shy S U59 → Rep g ad A s U59 H locs → lv_has ls 2 [(0, .ref (ad 0)), (1, .int v59_1)] → W p l e (headSpec (wt2 yX14_flags cX14_flags 2 none) ({ frames := 2, cells := 0, slots := 0, locals := 45 })).room s m ([.ref (ad 0)] : List Value).toArray below meth c H locs 0 0 (vx_MQ below (va_Qv (fun (u : MS) => Q u ∧ wfM u ∧ shy S u) (fun (u : MS) (t : State) => qE g ad A u t) A) ((vx_X (fun (u : MS) => E u ∧ wfM u ∧ shy S u) (fun (n9 : String) (u : MS) (t : State) => n9 = RJxb5711 ∧ qE g ad A u t) A)) ([.ref (ad 0)] : List Value).toArray s 0 0 A) (F0 m 59 ls [.int t59_0, .ref (ad 0)]) := by
              intro U59 t59_0 v59_1 H locs ls h hz_t59_0 hsh hR hl
              unfold w_flags_J59 at h
              refine lv_bipush (v := 7) hx hb dX14_flags_59 (by decide) ?_
              refine lv_aload_n hx hb dX14_flags_61 rfl (lv_at hl 0 rfl) ?_
              refine va_get (D := rD g) (ci := 13) (v := .ref (ad 9)) (C := RX14) (T := TX14) (N := 143) hx hb hts in2X14 hown hR.K hR.P 0 (hR.at14 hR.w.1) rfl 24 (by decide) (hts _ kx_210) (fun _ h9 => h9) (congrArg (fun z => some (vf ad z)) (hR.w.2.1 _ fin_24).1) dX14_flags_62 ?_
              refine lv_iload_n hx hb dX14_flags_65 rfl (lv_at hl 1 rfl) ?_
              obtain ⟨hv13, h⟩ := h
              refine va_iald hx hb hR.K hR.P 9 1 (hR.atI (hR.w.2.1 _ fin_24).2.1) rfl (k_ixN (k_ix (n := 48) (x := v59_1) (a := v59_1.toInt) rfl hv13) (hR.w.2.1 _ fin_24).2.2) dX14_flags_66 ?_
              refine lv_topi (fun z14 ez14 => ?_)
              obtain rfl : z14 = (qI U59 9 v59_1.toInt.toNat) := ez14
              obtain ⟨Q15, EQ15, h0, h⟩ := h
              have hFc := rfree hR hA
              refine vx_callv (vx_runV (As := [.int t59_0, .int 7, .int (qI U59 9 v59_1.toInt.toNat)]) (rest := []) ⟨hx, hb, hml, hown, hts⟩ (r_must l g ad H.size U59 t59_0 (7 : Int32) (qI U59 9 v59_1.toInt.toNat) hR.w hz_t59_0 Q15 EQ15 h0) (cwV 3 hts (gd2_V kx_198 kx_199 kx_200 kx_177 kx_201) rfl rfl rfl (by decide +kernel) ⟨Nat.le_of_ble_eq_true rfl, Nat.le_of_ble_eq_true rfl⟩) ⟨rblind, va_recv hR.K hR.P (ci := 13) (q0 := 0) rfl (hR.at14 hR.w.1), fun U hU hW9 => rmk hU hW9 hR hex hE hFc⟩ rfl rfl hl.1 rfl (lv_room (Nat.le_of_ble_eq_true rfl)) dX14_flags_67 ⟨Nat.le_of_ble_eq_true rfl, Nat.le_of_ble_eq_true rfl⟩) hR.sS (fun q _ h => hFc q h) hFc (fun q _ h => hFc q h) (fun E9 ce9 q9 u9 t9 H1 locs ht9 hvm9 hp9 hB9 hz9 hk9 hS hce9 hcv9 hcl9 => ?_) (fun  S16 t9 H1 locs ht9 hvm9 hw9 hB9 hz9 hk9 hS => ?_)
              · obtain ⟨hp9, hwx, hsx⟩ := hp9
                obtain ⟨rfl, hBx⟩ := hB9
                replace h := h.2 u9 hp9
                have hR : Rep g ad A s u9 H1 locs := hR.call ht9 hBx hwx hS hFc
                have hsh := hsh.tr hsx
                exact vx_out (E := RJxb5711) (q := q9) (fun x h9 => (hnt x h9).elim) hlocks hce9 hcv9 hcl9 (fun t9 ht9 ha9 => ⟨u9, ⟨h, hR.w, hsh⟩, ⟨rfl, by rw [ht9]; exact hR.P, hR.D⟩, hR.sS.F ht9⟩) hR.sS.2.2 (Nat.le_of_ble_eq_true rfl) (Nat.le_of_ble_eq_true rfl)
              · obtain ⟨hq17, hw9, hs9⟩ := hw9
                have hR : Rep g ad A s S16 H1 locs := hR.call ht9 hB9 hw9 hS hFc
                have hsh := hsh.tr hs9
                replace h := h.1  S16 hq17
                clear hB9 hz9 hk9 hvm9 ht9 hw9 hs9 hS
                generalize H1 = H at hR ⊢
                obtain ⟨a18, ea18⟩ : ∃ z, z = (v59_1 + Int32.ofInt 1) := ⟨_, rfl⟩
                replace h := h a18 ea18
                refine lv_iinc (v := a18) (lv' := [(1, .int a18), (0, .ref (ad 0))]) hx hb dX14_flags_70 hl (k := 1) rfl ea18.symm (by decide) rfl (fun ls hl => ?_)
                refine lv_goto (tgt := 30) hx hb dX14_flags_73 (by decide) ?_
                exact ih_30 S16 a18 _ _ ls h  hsh hR (lv_sub hl [1, 0] rfl)
            refine lv_icmp_ne (tgt := 58) hx hb dX14_flags_51 (by decide) (fun c19 => ?_) (fun c19 => ?_)
            · replace h := h.2 (k_ne rfl (by decide) c19)
              refine lv_iconst (v := 0) hx hb dX14_flags_58 (by decide) ?_
              exact J_59 U30 0 v30_1 _ _ ls h (Or.inl rfl) hsh hR (lv_sub hl [0, 1] rfl)
            · replace h := h.1 (k_eq rfl (by decide) c19)
              refine lv_iconst (v := 1) hx hb dX14_flags_54 (by decide) ?_
              refine lv_goto (tgt := 59) hx hb dX14_flags_55 (by decide) ?_
              exact J_59 U30 1 v30_1 _ _ ls h (Or.inr rfl) hsh hR (lv_sub hl [0, 1] rfl)
      obtain ⟨n9, h⟩ := h
      exact J_30 n9 S5 0 _ _ ls h  hsh hR (lv_sub hl [1, 0] rfl)
  refine lv_icmp_ne (tgt := 18) hx hb dX14_flags_11 (by decide) (fun c20 => ?_) (fun c20 => ?_)
  · replace h := h.2 (k_ne rfl (by decide) c20)
    refine lv_iconst (v := 0) hx hb dX14_flags_18 (by decide) ?_
    exact J_19 S 0 _ _ ls h (Or.inl rfl) hsh hR (lv_sub hl [0] rfl)
  · replace h := h.1 (k_eq rfl (by decide) c20)
    refine lv_iconst (v := 1) hx hb dX14_flags_14 (by decide) ?_
    refine lv_goto (tgt := 19) hx hb dX14_flags_15 (by decide) ?_
    exact J_19 S 1 _ _ ls h (Or.inr rfl) hsh hR (lv_sub hl [0] rfl)
def w_classes_J76 (Q : MS → Prop) (E : MS → Prop) (U76 : MS) (t76_0 : Int32) : Prop := (∃ Q28 EQ28, w_must U76 t76_0 (8 : Int32) ((qI U76 0 20) + (6 : Int32)) Q28 EQ28 ∧ (∀ S29, Q28 S29 → Q S29) ∧ (∀ u9, EQ28 u9 → E u9))
def w_classes (S : MS) (Q : MS → Prop) (E : MS → Prop) : Prop := (d_two S ((qI S 0 20) + (2 : Int32)) ∧ (d_isEntry S (f_two S ((qI S 0 20) + (2 : Int32))) (7 : Int32) ∧ (∃ Q9 EQ9, w_must S (f_isEntry S (f_two S ((qI S 0 20) + (2 : Int32))) (7 : Int32)) (8 : Int32) ((qI S 0 20) + (2 : Int32)) Q9 EQ9 ∧ (∀ S10, Q9 S10 → (d_two S10 ((qI S10 0 20) + (4 : Int32)) ∧ (d_isEntry S10 (f_two S10 ((qI S10 0 20) + (4 : Int32))) (7 : Int32) ∧ (∃ Q20 EQ20, w_must S10 (f_isEntry S10 (f_two S10 ((qI S10 0 20) + (4 : Int32))) (7 : Int32)) (8 : Int32) ((qI S10 0 20) + (4 : Int32)) Q20 EQ20 ∧ (∀ S21, Q20 S21 → (d_two S21 ((qI S21 0 20) + (6 : Int32)) ∧ (((f_two S21 ((qI S21 0 20) + (6 : Int32))).toInt = 0 → w_classes_J76 Q E S21 1) ∧ (¬ (f_two S21 ((qI S21 0 20) + (6 : Int32))).toInt = 0 → w_classes_J76 Q E S21 0)))) ∧ (∀ u9, EQ20 u9 → E u9))))) ∧ (∀ u9, EQ9 u9 → E u9))))
set_option maxHeartbeats 2000000 in
set_option maxRecDepth 100000 in
theorem r_classes (l : Launch) (g : Gr) (ad : Nat → Nat) (sz : Nat) (S : MS) (hw : wfM S) (Q : MS → Prop) (E : MS → Prop) (h : w_classes S Q E) : vx_Met l yX14_classes (wt2 yX14_classes cX14_classes 1 none) ({ frames := 2, cells := 0, slots := 0, locals := 45 }) (va_Pc [.ref (ad 0)] (st_R g ad sz S)) (va_Qv (fun (u : MS) => Q u ∧ wfM u ∧ shy S u) (fun (u : MS) (t : State) => qE g ad (va_A (Wd g ad S) sz) u t) (va_A (Wd g ad S) sz)) (vx_X (fun (u : MS) => E u ∧ wfM u ∧ shy S u) (fun (n9 : String) (u : MS) (t : State) => n9 = RJxb5711 ∧ qE g ad (va_A (Wd g ad S) sz) u t) (va_A (Wd g ad S) sz)) 0 0 (va_A (Wd g ad S) sz) := by
  refine vx_ofW (cc := cX14_classes) (maxL := 1) (ret := none) (by decide) rfl ?_
  intro p e s m args below meth c s₁ B hml hnt hv
  obtain ⟨rfl, hsz, hP, hK, hD0, hex, hE⟩ := hv
  have hx := B.exec
  have hb := B.bytes
  have hr := B.returns
  have hlocks := B.notSynchronized
  have hts0 := atoms_spec (ws := wt2 yX14_classes cX14_classes 1 none) B.pre
  have hts : ∀ w ∈ tb2, w.before _ s = true := fun w h => hts0 w (List.mem_cons_of_mem _ h)
  have hown : s.vm.findClass RX14 = some m.cls := findClass_of_methodNamed B.named
  subst hsz
  have hD := hD0.self (sz := s.heap.size)
  generalize hAe : va_A (Wd g ad S) s.heap.size = A at hD hE ⊢
  have hA : ∀ q : Nat, s.heap.size ≤ q → A q := fun q h => by rw [← hAe]; exact Or.inr h
  have hR : Rep g ad A s S s.heap [] := ⟨hK, hP, hD, va_S.rf, hw⟩
  clear hK hP hD hD0
  have hl := lv_entry ([.ref (ad 0)]) (n := 1) (Nat.le_of_ble_eq_true rfl)
  rw [lg_entry_eq]
  generalize (lg_sl ([.ref (ad 0)]) ++ List.replicate (1 - (lg_sl ([.ref (ad 0)])).length) Slot.unset).toArray = ls at hl ⊢
  have hl : lv_has ls 1 [(0, .ref (ad 0))] := hl
  have hsh : shy S S := shy.rf
  unfold w_classes at h
  refine lv_aload_n hx hb dX14_classes_0 rfl (lv_at hl 0 rfl) ?_
  refine lv_aload_n hx hb dX14_classes_1 rfl (lv_at hl 0 rfl) ?_
  refine lv_aload_n hx hb dX14_classes_2 rfl (lv_at hl 0 rfl) ?_
  refine lv_aload_n hx hb dX14_classes_3 rfl (lv_at hl 0 rfl) ?_
  refine va_get (D := rD g) (ci := 13) (v := .int (qI S 0 20)) (C := RX14) (T := TX14) (N := 143) hx hb hts in2X14 hown hR.K hR.P 0 (hR.at14 hR.w.1) rfl 20 (by decide) (hts _ kx_203) (fun _ h9 => h9) rfl dX14_classes_4 ?_
  refine lv_iconst (v := 2) hx hb dX14_classes_7 (by decide) ?_
  refine lv_iadd hx hb dX14_classes_8 ?_
  refine lv_topi (fun z1 ez1 => ?_)
  obtain rfl : z1 = ((qI S 0 20) + (2 : Int32)) := ez1
  obtain ⟨hv2, h⟩ := h
  have hFc := rfree hR hA
  refine va_calli (va_runV (As := [.int ((qI S 0 20) + (2 : Int32))]) (rest := [.ref (ad 0), .ref (ad 0)]) ⟨hx, hb, hml, hown, hts⟩ (r_two l g ad s.heap.size S ((qI S 0 20) + (2 : Int32)) hR.w  hv2) (cwV 1 hts (gd2_V kx_186 kx_187 kx_188 kx_177 kx_189) rfl rfl rfl (by decide +kernel) ⟨Nat.le_of_ble_eq_true rfl, Nat.le_of_ble_eq_true rfl⟩) ⟨rblind, va_recv hR.K hR.P (ci := 13) (q0 := 0) rfl (hR.at14 hR.w.1), fun U hU hW9 => rmk hU hW9 hR hex hE hFc⟩ rfl rfl hl.1 rfl (lv_room (Nat.le_of_ble_eq_true rfl)) dX14_classes_9 ⟨Nat.le_of_ble_eq_true rfl, Nat.le_of_ble_eq_true rfl⟩) hR.sS (fun q _ h => hFc q h) hFc (fun r3 u9 t9 H1 locs ht9 hvm9 hw9 hB9 hz9 hk9 hS => ?_)
  have hR : Rep g ad A s S H1 locs := hR.call ht9 hB9 hR.w hS hFc
  obtain rfl : r3 = (f_two S ((qI S 0 20) + (2 : Int32))) := hw9
  clear hB9 hz9 hk9 hvm9 ht9 hS
  generalize H1 = H at hR ⊢
  refine lv_bipush (v := 7) hx hb dX14_classes_12 (by decide) ?_
  obtain ⟨hv5, h⟩ := h
  have hFc := rfree hR hA
  refine va_calli (va_runV (As := [.int (f_two S ((qI S 0 20) + (2 : Int32))), .int 7]) (rest := [.ref (ad 0)]) ⟨hx, hb, hml, hown, hts⟩ (r_isEntry l g ad H.size S (f_two S ((qI S 0 20) + (2 : Int32))) (7 : Int32) hR.w  hv5) (cwV 2 hts (gd2_V kx_219 kx_220 kx_221 kx_177 kx_222) rfl rfl rfl (by decide +kernel) ⟨Nat.le_of_ble_eq_true rfl, Nat.le_of_ble_eq_true rfl⟩) ⟨rblind, va_recv hR.K hR.P (ci := 13) (q0 := 0) rfl (hR.at14 hR.w.1), fun U hU hW9 => rmk hU hW9 hR hex hE hFc⟩ rfl rfl hl.1 rfl (lv_room (Nat.le_of_ble_eq_true rfl)) dX14_classes_14 ⟨Nat.le_of_ble_eq_true rfl, Nat.le_of_ble_eq_true rfl⟩) hR.sS (fun q _ h => hFc q h) hFc (fun r6 u9 t9 H1 locs ht9 hvm9 hw9 hB9 hz9 hk9 hS => ?_)
  have hR : Rep g ad A s S H1 locs := hR.call ht9 hB9 hR.w hS hFc
  obtain ⟨rfl, hz_r6⟩ := hw9
  clear hB9 hz9 hk9 hvm9 ht9 hS
  generalize H1 = H at hR ⊢
  refine lv_bipush (v := 8) hx hb dX14_classes_17 (by decide) ?_
  refine lv_aload_n hx hb dX14_classes_19 rfl (lv_at hl 0 rfl) ?_
  refine va_get (D := rD g) (ci := 13) (v := .int (qI S 0 20)) (C := RX14) (T := TX14) (N := 143) hx hb hts in2X14 hown hR.K hR.P 0 (hR.at14 hR.w.1) rfl 20 (by decide) (hts _ kx_203) (fun _ h9 => h9) rfl dX14_classes_20 ?_
  refine lv_iconst (v := 2) hx hb dX14_classes_23 (by decide) ?_
  refine lv_iadd hx hb dX14_classes_24 ?_
  refine lv_topi (fun z8 ez8 => ?_)
  obtain rfl : z8 = ((qI S 0 20) + (2 : Int32)) := ez8
  obtain ⟨Q9, EQ9, h0, h⟩ := h
  have hFc := rfree hR hA
  refine vx_callv (vx_runV (As := [.int (f_isEntry S (f_two S ((qI S 0 20) + (2 : Int32))) (7 : Int32)), .int 8, .int ((qI S 0 20) + (2 : Int32))]) (rest := []) ⟨hx, hb, hml, hown, hts⟩ (r_must l g ad H.size S (f_isEntry S (f_two S ((qI S 0 20) + (2 : Int32))) (7 : Int32)) (8 : Int32) ((qI S 0 20) + (2 : Int32)) hR.w hz_r6 Q9 EQ9 h0) (cwV 3 hts (gd2_V kx_198 kx_199 kx_200 kx_177 kx_201) rfl rfl rfl (by decide +kernel) ⟨Nat.le_of_ble_eq_true rfl, Nat.le_of_ble_eq_true rfl⟩) ⟨rblind, va_recv hR.K hR.P (ci := 13) (q0 := 0) rfl (hR.at14 hR.w.1), fun U hU hW9 => rmk hU hW9 hR hex hE hFc⟩ rfl rfl hl.1 rfl (lv_room (Nat.le_of_ble_eq_true rfl)) dX14_classes_25 ⟨Nat.le_of_ble_eq_true rfl, Nat.le_of_ble_eq_true rfl⟩) hR.sS (fun q _ h => hFc q h) hFc (fun q _ h => hFc q h) (fun E9 ce9 q9 u9 t9 H1 locs ht9 hvm9 hp9 hB9 hz9 hk9 hS hce9 hcv9 hcl9 => ?_) (fun  S10 t9 H1 locs ht9 hvm9 hw9 hB9 hz9 hk9 hS => ?_)
  · obtain ⟨hp9, hwx, hsx⟩ := hp9
    obtain ⟨rfl, hBx⟩ := hB9
    replace h := h.2 u9 hp9
    have hR : Rep g ad A s u9 H1 locs := hR.call ht9 hBx hwx hS hFc
    have hsh := hsh.tr hsx
    exact vx_out (E := RJxb5711) (q := q9) (fun x h9 => (hnt x h9).elim) hlocks hce9 hcv9 hcl9 (fun t9 ht9 ha9 => ⟨u9, ⟨h, hR.w, hsh⟩, ⟨rfl, by rw [ht9]; exact hR.P, hR.D⟩, hR.sS.F ht9⟩) hR.sS.2.2 (Nat.le_of_ble_eq_true rfl) (Nat.le_of_ble_eq_true rfl)
  · obtain ⟨hq11, hw9, hs9⟩ := hw9
    have hR : Rep g ad A s S10 H1 locs := hR.call ht9 hB9 hw9 hS hFc
    have hsh := hsh.tr hs9
    replace h := h.1  S10 hq11
    clear hB9 hz9 hk9 hvm9 ht9 hw9 hs9 hS
    generalize H1 = H at hR ⊢
    refine lv_aload_n hx hb dX14_classes_28 rfl (lv_at hl 0 rfl) ?_
    refine lv_aload_n hx hb dX14_classes_29 rfl (lv_at hl 0 rfl) ?_
    refine lv_aload_n hx hb dX14_classes_30 rfl (lv_at hl 0 rfl) ?_
    refine lv_aload_n hx hb dX14_classes_31 rfl (lv_at hl 0 rfl) ?_
    refine va_get (D := rD g) (ci := 13) (v := .int (qI S10 0 20)) (C := RX14) (T := TX14) (N := 143) hx hb hts in2X14 hown hR.K hR.P 0 (hR.at14 hR.w.1) rfl 20 (by decide) (hts _ kx_203) (fun _ h9 => h9) rfl dX14_classes_32 ?_
    refine lv_iconst (v := 4) hx hb dX14_classes_35 (by decide) ?_
    refine lv_iadd hx hb dX14_classes_36 ?_
    refine lv_topi (fun z12 ez12 => ?_)
    obtain rfl : z12 = ((qI S10 0 20) + (4 : Int32)) := ez12
    obtain ⟨hv13, h⟩ := h
    have hFc := rfree hR hA
    refine va_calli (va_runV (As := [.int ((qI S10 0 20) + (4 : Int32))]) (rest := [.ref (ad 0), .ref (ad 0)]) ⟨hx, hb, hml, hown, hts⟩ (r_two l g ad H.size S10 ((qI S10 0 20) + (4 : Int32)) hR.w  hv13) (cwV 1 hts (gd2_V kx_186 kx_187 kx_188 kx_177 kx_189) rfl rfl rfl (by decide +kernel) ⟨Nat.le_of_ble_eq_true rfl, Nat.le_of_ble_eq_true rfl⟩) ⟨rblind, va_recv hR.K hR.P (ci := 13) (q0 := 0) rfl (hR.at14 hR.w.1), fun U hU hW9 => rmk hU hW9 hR hex hE hFc⟩ rfl rfl hl.1 rfl (lv_room (Nat.le_of_ble_eq_true rfl)) dX14_classes_37 ⟨Nat.le_of_ble_eq_true rfl, Nat.le_of_ble_eq_true rfl⟩) hR.sS (fun q _ h => hFc q h) hFc (fun r14 u9 t9 H1 locs ht9 hvm9 hw9 hB9 hz9 hk9 hS => ?_)
    have hR : Rep g ad A s S10 H1 locs := hR.call ht9 hB9 hR.w hS hFc
    obtain rfl : r14 = (f_two S10 ((qI S10 0 20) + (4 : Int32))) := hw9
    clear hB9 hz9 hk9 hvm9 ht9 hS
    generalize H1 = H at hR ⊢
    refine lv_bipush (v := 7) hx hb dX14_classes_40 (by decide) ?_
    obtain ⟨hv16, h⟩ := h
    have hFc := rfree hR hA
    refine va_calli (va_runV (As := [.int (f_two S10 ((qI S10 0 20) + (4 : Int32))), .int 7]) (rest := [.ref (ad 0)]) ⟨hx, hb, hml, hown, hts⟩ (r_isEntry l g ad H.size S10 (f_two S10 ((qI S10 0 20) + (4 : Int32))) (7 : Int32) hR.w  hv16) (cwV 2 hts (gd2_V kx_219 kx_220 kx_221 kx_177 kx_222) rfl rfl rfl (by decide +kernel) ⟨Nat.le_of_ble_eq_true rfl, Nat.le_of_ble_eq_true rfl⟩) ⟨rblind, va_recv hR.K hR.P (ci := 13) (q0 := 0) rfl (hR.at14 hR.w.1), fun U hU hW9 => rmk hU hW9 hR hex hE hFc⟩ rfl rfl hl.1 rfl (lv_room (Nat.le_of_ble_eq_true rfl)) dX14_classes_42 ⟨Nat.le_of_ble_eq_true rfl, Nat.le_of_ble_eq_true rfl⟩) hR.sS (fun q _ h => hFc q h) hFc (fun r17 u9 t9 H1 locs ht9 hvm9 hw9 hB9 hz9 hk9 hS => ?_)
    have hR : Rep g ad A s S10 H1 locs := hR.call ht9 hB9 hR.w hS hFc
    obtain ⟨rfl, hz_r17⟩ := hw9
    clear hB9 hz9 hk9 hvm9 ht9 hS
    generalize H1 = H at hR ⊢
    refine lv_bipush (v := 8) hx hb dX14_classes_45 (by decide) ?_
    refine lv_aload_n hx hb dX14_classes_47 rfl (lv_at hl 0 rfl) ?_
    refine va_get (D := rD g) (ci := 13) (v := .int (qI S10 0 20)) (C := RX14) (T := TX14) (N := 143) hx hb hts in2X14 hown hR.K hR.P 0 (hR.at14 hR.w.1) rfl 20 (by decide) (hts _ kx_203) (fun _ h9 => h9) rfl dX14_classes_48 ?_
    refine lv_iconst (v := 4) hx hb dX14_classes_51 (by decide) ?_
    refine lv_iadd hx hb dX14_classes_52 ?_
    refine lv_topi (fun z19 ez19 => ?_)
    obtain rfl : z19 = ((qI S10 0 20) + (4 : Int32)) := ez19
    obtain ⟨Q20, EQ20, h0, h⟩ := h
    have hFc := rfree hR hA
    refine vx_callv (vx_runV (As := [.int (f_isEntry S10 (f_two S10 ((qI S10 0 20) + (4 : Int32))) (7 : Int32)), .int 8, .int ((qI S10 0 20) + (4 : Int32))]) (rest := []) ⟨hx, hb, hml, hown, hts⟩ (r_must l g ad H.size S10 (f_isEntry S10 (f_two S10 ((qI S10 0 20) + (4 : Int32))) (7 : Int32)) (8 : Int32) ((qI S10 0 20) + (4 : Int32)) hR.w hz_r17 Q20 EQ20 h0) (cwV 3 hts (gd2_V kx_198 kx_199 kx_200 kx_177 kx_201) rfl rfl rfl (by decide +kernel) ⟨Nat.le_of_ble_eq_true rfl, Nat.le_of_ble_eq_true rfl⟩) ⟨rblind, va_recv hR.K hR.P (ci := 13) (q0 := 0) rfl (hR.at14 hR.w.1), fun U hU hW9 => rmk hU hW9 hR hex hE hFc⟩ rfl rfl hl.1 rfl (lv_room (Nat.le_of_ble_eq_true rfl)) dX14_classes_53 ⟨Nat.le_of_ble_eq_true rfl, Nat.le_of_ble_eq_true rfl⟩) hR.sS (fun q _ h => hFc q h) hFc (fun q _ h => hFc q h) (fun E9 ce9 q9 u9 t9 H1 locs ht9 hvm9 hp9 hB9 hz9 hk9 hS hce9 hcv9 hcl9 => ?_) (fun  S21 t9 H1 locs ht9 hvm9 hw9 hB9 hz9 hk9 hS => ?_)
    · obtain ⟨hp9, hwx, hsx⟩ := hp9
      obtain ⟨rfl, hBx⟩ := hB9
      replace h := h.2 u9 hp9
      have hR : Rep g ad A s u9 H1 locs := hR.call ht9 hBx hwx hS hFc
      have hsh := hsh.tr hsx
      exact vx_out (E := RJxb5711) (q := q9) (fun x h9 => (hnt x h9).elim) hlocks hce9 hcv9 hcl9 (fun t9 ht9 ha9 => ⟨u9, ⟨h, hR.w, hsh⟩, ⟨rfl, by rw [ht9]; exact hR.P, hR.D⟩, hR.sS.F ht9⟩) hR.sS.2.2 (Nat.le_of_ble_eq_true rfl) (Nat.le_of_ble_eq_true rfl)
    · obtain ⟨hq22, hw9, hs9⟩ := hw9
      have hR : Rep g ad A s S21 H1 locs := hR.call ht9 hB9 hw9 hS hFc
      have hsh := hsh.tr hs9
      replace h := h.1  S21 hq22
      clear hB9 hz9 hk9 hvm9 ht9 hw9 hs9 hS
      generalize H1 = H at hR ⊢
      refine lv_aload_n hx hb dX14_classes_56 rfl (lv_at hl 0 rfl) ?_
      refine lv_aload_n hx hb dX14_classes_57 rfl (lv_at hl 0 rfl) ?_
      refine lv_aload_n hx hb dX14_classes_58 rfl (lv_at hl 0 rfl) ?_
      refine va_get (D := rD g) (ci := 13) (v := .int (qI S21 0 20)) (C := RX14) (T := TX14) (N := 143) hx hb hts in2X14 hown hR.K hR.P 0 (hR.at14 hR.w.1) rfl 20 (by decide) (hts _ kx_203) (fun _ h9 => h9) rfl dX14_classes_59 ?_
      refine lv_bipush (v := 6) hx hb dX14_classes_62 (by decide) ?_
      refine lv_iadd hx hb dX14_classes_64 ?_
      refine lv_topi (fun z23 ez23 => ?_)
      obtain rfl : z23 = ((qI S21 0 20) + (6 : Int32)) := ez23
      obtain ⟨hv24, h⟩ := h
      have hFc := rfree hR hA
      refine va_calli (va_runV (As := [.int ((qI S21 0 20) + (6 : Int32))]) (rest := [.ref (ad 0)]) ⟨hx, hb, hml, hown, hts⟩ (r_two l g ad H.size S21 ((qI S21 0 20) + (6 : Int32)) hR.w  hv24) (cwV 1 hts (gd2_V kx_186 kx_187 kx_188 kx_177 kx_189) rfl rfl rfl (by decide +kernel) ⟨Nat.le_of_ble_eq_true rfl, Nat.le_of_ble_eq_true rfl⟩) ⟨rblind, va_recv hR.K hR.P (ci := 13) (q0 := 0) rfl (hR.at14 hR.w.1), fun U hU hW9 => rmk hU hW9 hR hex hE hFc⟩ rfl rfl hl.1 rfl (lv_room (Nat.le_of_ble_eq_true rfl)) dX14_classes_65 ⟨Nat.le_of_ble_eq_true rfl, Nat.le_of_ble_eq_true rfl⟩) hR.sS (fun q _ h => hFc q h) hFc (fun r25 u9 t9 H1 locs ht9 hvm9 hw9 hB9 hz9 hk9 hS => ?_)
      have hR : Rep g ad A s S21 H1 locs := hR.call ht9 hB9 hR.w hS hFc
      obtain rfl : r25 = (f_two S21 ((qI S21 0 20) + (6 : Int32))) := hw9
      clear hB9 hz9 hk9 hvm9 ht9 hS
      generalize H1 = H at hR ⊢
      have J_76 : ∀ (U76 : MS) (t76_0 : Int32) (H : Heap) (locs : List Loc) (ls : Array Slot), w_classes_J76 Q E U76 t76_0 → (t76_0 = 0 ∨ t76_0 = 1) → shy S U76 → Rep g ad A s U76 H locs → lv_has ls 1 [(0, .ref (ad 0))] → W p l e (headSpec (wt2 yX14_classes cX14_classes 1 none) ({ frames := 2, cells := 0, slots := 0, locals := 45 })).room s m ([.ref (ad 0)] : List Value).toArray below meth c H locs 0 0 (vx_MQ below (va_Qv (fun (u : MS) => Q u ∧ wfM u ∧ shy S u) (fun (u : MS) (t : State) => qE g ad A u t) A) ((vx_X (fun (u : MS) => E u ∧ wfM u ∧ shy S u) (fun (n9 : String) (u : MS) (t : State) => n9 = RJxb5711 ∧ qE g ad A u t) A)) ([.ref (ad 0)] : List Value).toArray s 0 0 A) (F0 m 76 ls [.int t76_0, .ref (ad 0)]) := by
        intro U76 t76_0 H locs ls h hz_t76_0 hsh hR hl
        unfold w_classes_J76 at h
        refine lv_bipush (v := 8) hx hb dX14_classes_76 (by decide) ?_
        refine lv_aload_n hx hb dX14_classes_78 rfl (lv_at hl 0 rfl) ?_
        refine va_get (D := rD g) (ci := 13) (v := .int (qI U76 0 20)) (C := RX14) (T := TX14) (N := 143) hx hb hts in2X14 hown hR.K hR.P 0 (hR.at14 hR.w.1) rfl 20 (by decide) (hts _ kx_203) (fun _ h9 => h9) rfl dX14_classes_79 ?_
        refine lv_bipush (v := 6) hx hb dX14_classes_82 (by decide) ?_
        refine lv_iadd hx hb dX14_classes_84 ?_
        refine lv_topi (fun z27 ez27 => ?_)
        obtain rfl : z27 = ((qI U76 0 20) + (6 : Int32)) := ez27
        obtain ⟨Q28, EQ28, h0, h⟩ := h
        have hFc := rfree hR hA
        refine vx_callv (vx_runV (As := [.int t76_0, .int 8, .int ((qI U76 0 20) + (6 : Int32))]) (rest := []) ⟨hx, hb, hml, hown, hts⟩ (r_must l g ad H.size U76 t76_0 (8 : Int32) ((qI U76 0 20) + (6 : Int32)) hR.w hz_t76_0 Q28 EQ28 h0) (cwV 3 hts (gd2_V kx_198 kx_199 kx_200 kx_177 kx_201) rfl rfl rfl (by decide +kernel) ⟨Nat.le_of_ble_eq_true rfl, Nat.le_of_ble_eq_true rfl⟩) ⟨rblind, va_recv hR.K hR.P (ci := 13) (q0 := 0) rfl (hR.at14 hR.w.1), fun U hU hW9 => rmk hU hW9 hR hex hE hFc⟩ rfl rfl hl.1 rfl (lv_room (Nat.le_of_ble_eq_true rfl)) dX14_classes_85 ⟨Nat.le_of_ble_eq_true rfl, Nat.le_of_ble_eq_true rfl⟩) hR.sS (fun q _ h => hFc q h) hFc (fun q _ h => hFc q h) (fun E9 ce9 q9 u9 t9 H1 locs ht9 hvm9 hp9 hB9 hz9 hk9 hS hce9 hcv9 hcl9 => ?_) (fun  S29 t9 H1 locs ht9 hvm9 hw9 hB9 hz9 hk9 hS => ?_)
        · obtain ⟨hp9, hwx, hsx⟩ := hp9
          obtain ⟨rfl, hBx⟩ := hB9
          replace h := h.2 u9 hp9
          have hR : Rep g ad A s u9 H1 locs := hR.call ht9 hBx hwx hS hFc
          have hsh := hsh.tr hsx
          exact vx_out (E := RJxb5711) (q := q9) (fun x h9 => (hnt x h9).elim) hlocks hce9 hcv9 hcl9 (fun t9 ht9 ha9 => ⟨u9, ⟨h, hR.w, hsh⟩, ⟨rfl, by rw [ht9]; exact hR.P, hR.D⟩, hR.sS.F ht9⟩) hR.sS.2.2 (Nat.le_of_ble_eq_true rfl) (Nat.le_of_ble_eq_true rfl)
        · obtain ⟨hq30, hw9, hs9⟩ := hw9
          have hR : Rep g ad A s S29 H1 locs := hR.call ht9 hB9 hw9 hS hFc
          have hsh := hsh.tr hs9
          replace h := h.1  S29 hq30
          clear hB9 hz9 hk9 hvm9 ht9 hw9 hs9 hS
          generalize H1 = H at hR ⊢
          exact vx_ret (W.vret hx hb hr (fun t9 ht9 hW9 => ⟨⟨S29, rfl, ⟨h, hR.w, hsh⟩, ⟨by rw [ht9]; exact hR.P, hR.D⟩⟩, hR.sS.F ht9⟩) hR.sS.2.2 dX14_classes_88)
      refine lv_if_ne (tgt := 75) hx hb dX14_classes_68 (by decide) (fun c31 => ?_) (fun c31 => ?_)
      · replace h := h.2 (k_ne rfl (by decide) c31)
        refine lv_iconst (v := 0) hx hb dX14_classes_75 (by decide) ?_
        exact J_76 S21 0 _ _ ls h (Or.inl rfl) hsh hR (lv_sub hl [0] rfl)
      · replace h := h.1 (k_eq rfl (by decide) c31)
        refine lv_iconst (v := 1) hx hb dX14_classes_71 (by decide) ?_
        refine lv_goto (tgt := 76) hx hb dX14_classes_72 (by decide) ?_
        exact J_76 S21 1 _ _ ls h (Or.inr rfl) hsh hR (lv_sub hl [0] rfl)
def w_mustName (S : MS) (x1 : Int32) (Q : MS → Prop) (E : MS → Prop) : Prop := (d_two S x1 ∧ (d_isEntry S (f_two S x1) (1 : Int32) ∧ (∃ Q7 EQ7, w_must S (f_isEntry S (f_two S x1) (1 : Int32)) (9 : Int32) x1 Q7 EQ7 ∧ (∀ S8, Q7 S8 → Q S8) ∧ (∀ u9, EQ7 u9 → E u9))))
set_option maxHeartbeats 2000000 in
set_option maxRecDepth 100000 in
theorem r_mustName (l : Launch) (g : Gr) (ad : Nat → Nat) (sz : Nat) (S : MS) (x1 : Int32) (hw : wfM S) (Q : MS → Prop) (E : MS → Prop) (h : w_mustName S x1 Q E) : vx_Met l yX14_mustName (wt2 yX14_mustName cX14_mustName 2 none) ({ frames := 2, cells := 0, slots := 0, locals := 45 }) (va_Pc [.ref (ad 0), .int x1] (st_R g ad sz S)) (va_Qv (fun (u : MS) => Q u ∧ wfM u ∧ shy S u) (fun (u : MS) (t : State) => qE g ad (va_A (Wd g ad S) sz) u t) (va_A (Wd g ad S) sz)) (vx_X (fun (u : MS) => E u ∧ wfM u ∧ shy S u) (fun (n9 : String) (u : MS) (t : State) => n9 = RJxb5711 ∧ qE g ad (va_A (Wd g ad S) sz) u t) (va_A (Wd g ad S) sz)) 0 0 (va_A (Wd g ad S) sz) := by
  refine vx_ofW (cc := cX14_mustName) (maxL := 2) (ret := none) (by decide) rfl ?_
  intro p e s m args below meth c s₁ B hml hnt hv
  obtain ⟨rfl, hsz, hP, hK, hD0, hex, hE⟩ := hv
  have hx := B.exec
  have hb := B.bytes
  have hr := B.returns
  have hlocks := B.notSynchronized
  have hts0 := atoms_spec (ws := wt2 yX14_mustName cX14_mustName 2 none) B.pre
  have hts : ∀ w ∈ tb2, w.before _ s = true := fun w h => hts0 w (List.mem_cons_of_mem _ h)
  have hown : s.vm.findClass RX14 = some m.cls := findClass_of_methodNamed B.named
  subst hsz
  have hD := hD0.self (sz := s.heap.size)
  generalize hAe : va_A (Wd g ad S) s.heap.size = A at hD hE ⊢
  have hA : ∀ q : Nat, s.heap.size ≤ q → A q := fun q h => by rw [← hAe]; exact Or.inr h
  have hR : Rep g ad A s S s.heap [] := ⟨hK, hP, hD, va_S.rf, hw⟩
  clear hK hP hD hD0
  have hl := lv_entry ([.ref (ad 0), .int x1]) (n := 2) (Nat.le_of_ble_eq_true rfl)
  rw [lg_entry_eq]
  generalize (lg_sl ([.ref (ad 0), .int x1]) ++ List.replicate (2 - (lg_sl ([.ref (ad 0), .int x1])).length) Slot.unset).toArray = ls at hl ⊢
  have hl : lv_has ls 2 [(0, .ref (ad 0)), (1, .int x1)] := hl
  have hsh : shy S S := shy.rf
  unfold w_mustName at h
  refine lv_aload_n hx hb dX14_mustName_0 rfl (lv_at hl 0 rfl) ?_
  refine lv_aload_n hx hb dX14_mustName_1 rfl (lv_at hl 0 rfl) ?_
  refine lv_aload_n hx hb dX14_mustName_2 rfl (lv_at hl 0 rfl) ?_
  refine lv_iload_n hx hb dX14_mustName_3 rfl (lv_at hl 1 rfl) ?_
  obtain ⟨hv1, h⟩ := h
  have hFc := rfree hR hA
  refine va_calli (va_runV (As := [.int x1]) (rest := [.ref (ad 0), .ref (ad 0)]) ⟨hx, hb, hml, hown, hts⟩ (r_two l g ad s.heap.size S x1 hR.w  hv1) (cwV 1 hts (gd2_V kx_186 kx_187 kx_188 kx_177 kx_189) rfl rfl rfl (by decide +kernel) ⟨Nat.le_of_ble_eq_true rfl, Nat.le_of_ble_eq_true rfl⟩) ⟨rblind, va_recv hR.K hR.P (ci := 13) (q0 := 0) rfl (hR.at14 hR.w.1), fun U hU hW9 => rmk hU hW9 hR hex hE hFc⟩ rfl rfl hl.1 rfl (lv_room (Nat.le_of_ble_eq_true rfl)) dX14_mustName_4 ⟨Nat.le_of_ble_eq_true rfl, Nat.le_of_ble_eq_true rfl⟩) hR.sS (fun q _ h => hFc q h) hFc (fun r2 u9 t9 H1 locs ht9 hvm9 hw9 hB9 hz9 hk9 hS => ?_)
  have hR : Rep g ad A s S H1 locs := hR.call ht9 hB9 hR.w hS hFc
  obtain rfl : r2 = (f_two S x1) := hw9
  clear hB9 hz9 hk9 hvm9 ht9 hS
  generalize H1 = H at hR ⊢
  refine lv_iconst (v := 1) hx hb dX14_mustName_7 (by decide) ?_
  obtain ⟨hv4, h⟩ := h
  have hFc := rfree hR hA
  refine va_calli (va_runV (As := [.int (f_two S x1), .int 1]) (rest := [.ref (ad 0)]) ⟨hx, hb, hml, hown, hts⟩ (r_isEntry l g ad H.size S (f_two S x1) (1 : Int32) hR.w  hv4) (cwV 2 hts (gd2_V kx_219 kx_220 kx_221 kx_177 kx_222) rfl rfl rfl (by decide +kernel) ⟨Nat.le_of_ble_eq_true rfl, Nat.le_of_ble_eq_true rfl⟩) ⟨rblind, va_recv hR.K hR.P (ci := 13) (q0 := 0) rfl (hR.at14 hR.w.1), fun U hU hW9 => rmk hU hW9 hR hex hE hFc⟩ rfl rfl hl.1 rfl (lv_room (Nat.le_of_ble_eq_true rfl)) dX14_mustName_8 ⟨Nat.le_of_ble_eq_true rfl, Nat.le_of_ble_eq_true rfl⟩) hR.sS (fun q _ h => hFc q h) hFc (fun r5 u9 t9 H1 locs ht9 hvm9 hw9 hB9 hz9 hk9 hS => ?_)
  have hR : Rep g ad A s S H1 locs := hR.call ht9 hB9 hR.w hS hFc
  obtain ⟨rfl, hz_r5⟩ := hw9
  clear hB9 hz9 hk9 hvm9 ht9 hS
  generalize H1 = H at hR ⊢
  refine lv_bipush (v := 9) hx hb dX14_mustName_11 (by decide) ?_
  refine lv_iload_n hx hb dX14_mustName_13 rfl (lv_at hl 1 rfl) ?_
  obtain ⟨Q7, EQ7, h0, h⟩ := h
  have hFc := rfree hR hA
  refine vx_callv (vx_runV (As := [.int (f_isEntry S (f_two S x1) (1 : Int32)), .int 9, .int x1]) (rest := []) ⟨hx, hb, hml, hown, hts⟩ (r_must l g ad H.size S (f_isEntry S (f_two S x1) (1 : Int32)) (9 : Int32) x1 hR.w hz_r5 Q7 EQ7 h0) (cwV 3 hts (gd2_V kx_198 kx_199 kx_200 kx_177 kx_201) rfl rfl rfl (by decide +kernel) ⟨Nat.le_of_ble_eq_true rfl, Nat.le_of_ble_eq_true rfl⟩) ⟨rblind, va_recv hR.K hR.P (ci := 13) (q0 := 0) rfl (hR.at14 hR.w.1), fun U hU hW9 => rmk hU hW9 hR hex hE hFc⟩ rfl rfl hl.1 rfl (lv_room (Nat.le_of_ble_eq_true rfl)) dX14_mustName_14 ⟨Nat.le_of_ble_eq_true rfl, Nat.le_of_ble_eq_true rfl⟩) hR.sS (fun q _ h => hFc q h) hFc (fun q _ h => hFc q h) (fun E9 ce9 q9 u9 t9 H1 locs ht9 hvm9 hp9 hB9 hz9 hk9 hS hce9 hcv9 hcl9 => ?_) (fun  S8 t9 H1 locs ht9 hvm9 hw9 hB9 hz9 hk9 hS => ?_)
  · obtain ⟨hp9, hwx, hsx⟩ := hp9
    obtain ⟨rfl, hBx⟩ := hB9
    replace h := h.2 u9 hp9
    have hR : Rep g ad A s u9 H1 locs := hR.call ht9 hBx hwx hS hFc
    have hsh := hsh.tr hsx
    exact vx_out (E := RJxb5711) (q := q9) (fun x h9 => (hnt x h9).elim) hlocks hce9 hcv9 hcl9 (fun t9 ht9 ha9 => ⟨u9, ⟨h, hR.w, hsh⟩, ⟨rfl, by rw [ht9]; exact hR.P, hR.D⟩, hR.sS.F ht9⟩) hR.sS.2.2 (Nat.le_of_ble_eq_true rfl) (Nat.le_of_ble_eq_true rfl)
  · obtain ⟨hq9, hw9, hs9⟩ := hw9
    have hR : Rep g ad A s S8 H1 locs := hR.call ht9 hB9 hw9 hS hFc
    have hsh := hsh.tr hs9
    replace h := h.1  S8 hq9
    clear hB9 hz9 hk9 hvm9 ht9 hw9 hs9 hS
    generalize H1 = H at hR ⊢
    exact vx_ret (W.vret hx hb hr (fun t9 ht9 hW9 => ⟨⟨S8, rfl, ⟨h, hR.w, hsh⟩, ⟨by rw [ht9]; exact hR.P, hR.D⟩⟩, hR.sS.F ht9⟩) hR.sS.2.2 dX14_mustName_17)
def w_names_L76 (Q : MS → Prop) (E : MS → Prop) : Nat → MS → Int32 → Prop
  | 0, _, _ => False
  | n76 + 1, U76, v76_1 => (((qI U76 0 25).toInt ≤ v76_1.toInt → Q U76) ∧ (¬ (qI U76 0 25).toInt ≤ v76_1.toInt → (((0 : Int) ≤ v76_1.toInt ∧ v76_1.toInt < 3000) ∧ (∃ Q4 EQ4, w_mustName U76 (qI U76 10 v76_1.toInt.toNat) Q4 EQ4 ∧ (∀ S5, Q4 S5 → (∀ a7 : Int32, a7 = (v76_1 + Int32.ofInt 1) → (w_names_L76 Q E n76) S5 a7)) ∧ (∀ u9, EQ4 u9 → E u9)))))
def w_names_J70 (Q : MS → Prop) (E : MS → Prop) (k4 : MS → Int32 → Int32 → Prop) (U70 : MS) (v70_1 : Int32) (v70_2 : Int32) : Prop := (∀ a21 : Int32, a21 = (v70_2 + Int32.ofInt 1) → k4 U70 v70_1 a21)
def w_names_L36 (Q : MS → Prop) (E : MS → Prop) (k4 : MS → Int32 → Int32 → Prop) : Nat → MS → Int32 → Int32 → Prop
  | 0, _, _, _ => False
  | n36 + 1, U36, v36_1, v36_2 => (((qI U36 0 25).toInt ≤ v36_1.toInt → w_names_J70 Q E k4 U36 v36_1 v36_2) ∧ (¬ (qI U36 0 25).toInt ≤ v36_1.toInt → (((0 : Int) ≤ v36_1.toInt ∧ v36_1.toInt < 3000) ∧ (((qI U36 11 v36_1.toInt.toNat).toInt = v36_2.toInt → (((0 : Int) ≤ v36_1.toInt ∧ v36_1.toInt < 3000) ∧ (∃ Q28 EQ28, w_mustName U36 (qI U36 10 v36_1.toInt.toNat) Q28 EQ28 ∧ (∀ S29, Q28 S29 → (∀ a31 : Int32, a31 = (v36_1 + Int32.ofInt 1) → (w_names_L36 Q E k4 n36) S29 a31 v36_2)) ∧ (∀ u9, EQ28 u9 → E u9)))) ∧ (¬ (qI U36 11 v36_1.toInt.toNat).toInt = v36_2.toInt → w_names_J70 Q E k4 U36 v36_1 v36_2)))))
def w_names_L4 (Q : MS → Prop) (E : MS → Prop) : Nat → MS → Int32 → Int32 → Prop
  | 0, _, _, _ => False
  | n4 + 1, U4, v4_1, v4_2 => (((qI U4 0 21).toInt ≤ v4_2.toInt → (∃ n, w_names_L76 Q E n U4 v4_1)) ∧ (¬ (qI U4 0 21).toInt ≤ v4_2.toInt → (((0 : Int) ≤ v4_2.toInt ∧ v4_2.toInt < 48) ∧ (∃ Q12 EQ12, w_mustName U4 ((qI U4 9 v4_2.toInt.toNat) + (2 : Int32)) Q12 EQ12 ∧ (∀ S13, Q12 S13 → (((0 : Int) ≤ v4_2.toInt ∧ v4_2.toInt < 48) ∧ (∃ Q18 EQ18, w_mustName S13 ((qI S13 9 v4_2.toInt.toNat) + (4 : Int32)) Q18 EQ18 ∧ (∀ S19, Q18 S19 → (∃ n, w_names_L36 Q E (w_names_L4 Q E n4) n S19 v4_1 v4_2)) ∧ (∀ u9, EQ18 u9 → E u9)))) ∧ (∀ u9, EQ12 u9 → E u9)))))
def w_names (S : MS) (Q : MS → Prop) (E : MS → Prop) : Prop := (∃ n, w_names_L4 Q E n S 0 0)
set_option maxHeartbeats 2000000 in
set_option maxRecDepth 100000 in
theorem r_names (l : Launch) (g : Gr) (ad : Nat → Nat) (sz : Nat) (S : MS) (hw : wfM S) (Q : MS → Prop) (E : MS → Prop) (h : w_names S Q E) : vx_Met l yX14_names (wt2 yX14_names cX14_names 3 none) ({ frames := 3, cells := 0, slots := 0, locals := 66 }) (va_Pc [.ref (ad 0)] (st_R g ad sz S)) (va_Qv (fun (u : MS) => Q u ∧ wfM u ∧ shy S u) (fun (u : MS) (t : State) => qE g ad (va_A (Wd g ad S) sz) u t) (va_A (Wd g ad S) sz)) (vx_X (fun (u : MS) => E u ∧ wfM u ∧ shy S u) (fun (n9 : String) (u : MS) (t : State) => n9 = RJxb5711 ∧ qE g ad (va_A (Wd g ad S) sz) u t) (va_A (Wd g ad S) sz)) 0 0 (va_A (Wd g ad S) sz) := by
  refine vx_ofW (cc := cX14_names) (maxL := 3) (ret := none) (by decide) rfl ?_
  intro p e s m args below meth c s₁ B hml hnt hv
  obtain ⟨rfl, hsz, hP, hK, hD0, hex, hE⟩ := hv
  have hx := B.exec
  have hb := B.bytes
  have hr := B.returns
  have hlocks := B.notSynchronized
  have hts0 := atoms_spec (ws := wt2 yX14_names cX14_names 3 none) B.pre
  have hts : ∀ w ∈ tb2, w.before _ s = true := fun w h => hts0 w (List.mem_cons_of_mem _ h)
  have hown : s.vm.findClass RX14 = some m.cls := findClass_of_methodNamed B.named
  subst hsz
  have hD := hD0.self (sz := s.heap.size)
  generalize hAe : va_A (Wd g ad S) s.heap.size = A at hD hE ⊢
  have hA : ∀ q : Nat, s.heap.size ≤ q → A q := fun q h => by rw [← hAe]; exact Or.inr h
  have hR : Rep g ad A s S s.heap [] := ⟨hK, hP, hD, va_S.rf, hw⟩
  clear hK hP hD hD0
  have hl := lv_entry ([.ref (ad 0)]) (n := 3) (Nat.le_of_ble_eq_true rfl)
  rw [lg_entry_eq]
  generalize (lg_sl ([.ref (ad 0)]) ++ List.replicate (3 - (lg_sl ([.ref (ad 0)])).length) Slot.unset).toArray = ls at hl ⊢
  have hl : lv_has ls 3 [(0, .ref (ad 0))] := hl
  have hsh : shy S S := shy.rf
  unfold w_names at h
  refine lv_iconst (v := 0) hx hb dX14_names_0 (by decide) ?_
  refine lv_istore_n (lv' := [(1, .int 0), (0, .ref (ad 0))]) hx hb dX14_names_1 rfl hl (by decide) rfl (fun ls hl => ?_)
  refine lv_iconst (v := 0) hx hb dX14_names_2 (by decide) ?_
  refine lv_istore_n (lv' := [(2, .int 0), (1, .int 0), (0, .ref (ad 0))]) hx hb dX14_names_3 rfl hl (by decide) rfl (fun ls hl => ?_)
  have J_4 : ∀ (n4 : Nat) (U4 : MS) (v4_1 : Int32) (v4_2 : Int32) (H : Heap) (locs : List Loc) (ls : Array Slot), w_names_L4 Q E n4 U4 v4_1 v4_2 → shy S U4 → Rep g ad A s U4 H locs → lv_has ls 3 [(0, .ref (ad 0)), (1, .int v4_1), (2, .int v4_2)] → W p l e (headSpec (wt2 yX14_names cX14_names 3 none) ({ frames := 3, cells := 0, slots := 0, locals := 66 })).room s m ([.ref (ad 0)] : List Value).toArray below meth c H locs 0 0 (vx_MQ below (va_Qv (fun (u : MS) => Q u ∧ wfM u ∧ shy S u) (fun (u : MS) (t : State) => qE g ad A u t) A) ((vx_X (fun (u : MS) => E u ∧ wfM u ∧ shy S u) (fun (n9 : String) (u : MS) (t : State) => n9 = RJxb5711 ∧ qE g ad A u t) A)) ([.ref (ad 0)] : List Value).toArray s 0 0 A) (F0 m 4 ls []) := by
    intro n4
    induction n4 with
    | zero => intro U4 v4_1 v4_2 H locs ls h hsh hR hl; unfold w_names_L4 at h; exact h.elim
    | succ n4 ih_4 =>
      intro U4 v4_1 v4_2 H locs ls h hsh hR hl
      unfold w_names_L4 at h
      refine lv_iload_n hx hb dX14_names_4 rfl (lv_at hl 2 rfl) ?_
      refine lv_aload_n hx hb dX14_names_5 rfl (lv_at hl 0 rfl) ?_
      refine va_get (D := rD g) (ci := 13) (v := .int (qI U4 0 21)) (C := RX14) (T := TX14) (N := 143) hx hb hts in2X14 hown hR.K hR.P 0 (hR.at14 hR.w.1) rfl 21 (by decide) (hts _ kx_205) (fun _ h9 => h9) rfl dX14_names_6 ?_
      have J_76 : ∀ (n76 : Nat) (U76 : MS) (v76_1 : Int32) (H : Heap) (locs : List Loc) (ls : Array Slot), w_names_L76 Q E n76 U76 v76_1 → shy S U76 → Rep g ad A s U76 H locs → lv_has ls 3 [(0, .ref (ad 0)), (1, .int v76_1)] → W p l e (headSpec (wt2 yX14_names cX14_names 3 none) ({ frames := 3, cells := 0, slots := 0, locals := 66 })).room s m ([.ref (ad 0)] : List Value).toArray below meth c H locs 0 0 (vx_MQ below (va_Qv (fun (u : MS) => Q u ∧ wfM u ∧ shy S u) (fun (u : MS) (t : State) => qE g ad A u t) A) ((vx_X (fun (u : MS) => E u ∧ wfM u ∧ shy S u) (fun (n9 : String) (u : MS) (t : State) => n9 = RJxb5711 ∧ qE g ad A u t) A)) ([.ref (ad 0)] : List Value).toArray s 0 0 A) (F0 m 76 ls []) := by
        intro n76
        induction n76 with
        | zero => intro U76 v76_1 H locs ls h hsh hR hl; unfold w_names_L76 at h; exact h.elim
        | succ n76 ih_76 =>
          intro U76 v76_1 H locs ls h hsh hR hl
          unfold w_names_L76 at h
          refine lv_iload_n hx hb dX14_names_76 rfl (lv_at hl 1 rfl) ?_
          refine lv_aload_n hx hb dX14_names_77 rfl (lv_at hl 0 rfl) ?_
          refine va_get (D := rD g) (ci := 13) (v := .int (qI U76 0 25)) (C := RX14) (T := TX14) (N := 143) hx hb hts in2X14 hown hR.K hR.P 0 (hR.at14 hR.w.1) rfl 25 (by decide) (hts _ kx_206) (fun _ h9 => h9) rfl dX14_names_78 ?_
          refine lv_icmp_ge (tgt := 100) hx hb dX14_names_81 (by decide) (fun c1 => ?_) (fun c1 => ?_)
          · replace h := h.1 (k_le rfl rfl c1)
            exact vx_ret (W.vret hx hb hr (fun t9 ht9 hW9 => ⟨⟨U76, rfl, ⟨h, hR.w, hsh⟩, ⟨by rw [ht9]; exact hR.P, hR.D⟩⟩, hR.sS.F ht9⟩) hR.sS.2.2 dX14_names_100)
          · replace h := h.2 (k_nle rfl rfl c1)
            refine lv_aload_n hx hb dX14_names_84 rfl (lv_at hl 0 rfl) ?_
            refine lv_aload_n hx hb dX14_names_85 rfl (lv_at hl 0 rfl) ?_
            refine va_get (D := rD g) (ci := 13) (v := .ref (ad 10)) (C := RX14) (T := TX14) (N := 143) hx hb hts in2X14 hown hR.K hR.P 0 (hR.at14 hR.w.1) rfl 26 (by decide) (hts _ kx_217) (fun _ h9 => h9) (congrArg (fun z => some (vf ad z)) (hR.w.2.1 _ fin_26).1) dX14_names_86 ?_
            refine lv_iload_n hx hb dX14_names_89 rfl (lv_at hl 1 rfl) ?_
            obtain ⟨hv2, h⟩ := h
            refine va_iald hx hb hR.K hR.P 10 1 (hR.atI (hR.w.2.1 _ fin_26).2.1) rfl (k_ixN (k_ix (n := 3000) (x := v76_1) (a := v76_1.toInt) rfl hv2) (hR.w.2.1 _ fin_26).2.2) dX14_names_90 ?_
            refine lv_topi (fun z3 ez3 => ?_)
            obtain rfl : z3 = (qI U76 10 v76_1.toInt.toNat) := ez3
            obtain ⟨Q4, EQ4, h0, h⟩ := h
            have hFc := rfree hR hA
            refine vx_callv (vx_runV (As := [.int (qI U76 10 v76_1.toInt.toNat)]) (rest := []) ⟨hx, hb, hml, hown, hts⟩ (r_mustName l g ad H.size U76 (qI U76 10 v76_1.toInt.toNat) hR.w  Q4 EQ4 h0) (cwV 1 hts (gd2_V kx_223 kx_224 kx_225 kx_177 kx_226) rfl rfl rfl (by decide +kernel) ⟨Nat.le_of_ble_eq_true rfl, Nat.le_of_ble_eq_true rfl⟩) ⟨rblind, va_recv hR.K hR.P (ci := 13) (q0 := 0) rfl (hR.at14 hR.w.1), fun U hU hW9 => rmk hU hW9 hR hex hE hFc⟩ rfl rfl hl.1 rfl (lv_room (Nat.le_of_ble_eq_true rfl)) dX14_names_91 ⟨Nat.le_of_ble_eq_true rfl, Nat.le_of_ble_eq_true rfl⟩) hR.sS (fun q _ h => hFc q h) hFc (fun q _ h => hFc q h) (fun E9 ce9 q9 u9 t9 H1 locs ht9 hvm9 hp9 hB9 hz9 hk9 hS hce9 hcv9 hcl9 => ?_) (fun  S5 t9 H1 locs ht9 hvm9 hw9 hB9 hz9 hk9 hS => ?_)
            · obtain ⟨hp9, hwx, hsx⟩ := hp9
              obtain ⟨rfl, hBx⟩ := hB9
              replace h := h.2 u9 hp9
              have hR : Rep g ad A s u9 H1 locs := hR.call ht9 hBx hwx hS hFc
              have hsh := hsh.tr hsx
              exact vx_out (E := RJxb5711) (q := q9) (fun x h9 => (hnt x h9).elim) hlocks hce9 hcv9 hcl9 (fun t9 ht9 ha9 => ⟨u9, ⟨h, hR.w, hsh⟩, ⟨rfl, by rw [ht9]; exact hR.P, hR.D⟩, hR.sS.F ht9⟩) hR.sS.2.2 (Nat.le_of_ble_eq_true rfl) (Nat.le_of_ble_eq_true rfl)
            · obtain ⟨hq6, hw9, hs9⟩ := hw9
              have hR : Rep g ad A s S5 H1 locs := hR.call ht9 hB9 hw9 hS hFc
              have hsh := hsh.tr hs9
              replace h := h.1  S5 hq6
              clear hB9 hz9 hk9 hvm9 ht9 hw9 hs9 hS
              generalize H1 = H at hR ⊢
              obtain ⟨a7, ea7⟩ : ∃ z, z = (v76_1 + Int32.ofInt 1) := ⟨_, rfl⟩
              replace h := h a7 ea7
              refine lv_iinc (v := a7) (lv' := [(1, .int a7), (0, .ref (ad 0))]) hx hb dX14_names_94 hl (k := 1) rfl ea7.symm (by decide) rfl (fun ls hl => ?_)
              refine lv_goto (tgt := 76) hx hb dX14_names_97 (by decide) ?_
              exact ih_76 S5 a7 _ _ ls h  hsh hR (lv_sub hl [1, 0] rfl)
      refine lv_icmp_ge (tgt := 76) hx hb dX14_names_9 (by decide) (fun c8 => ?_) (fun c8 => ?_)
      · replace h := h.1 (k_le rfl rfl c8)
        obtain ⟨n9, h⟩ := h
        exact J_76 n9 U4 v4_1 _ _ ls h  hsh hR (lv_sub hl [0, 1] rfl)
      · replace h := h.2 (k_nle rfl rfl c8)
        refine lv_aload_n hx hb dX14_names_12 rfl (lv_at hl 0 rfl) ?_
        refine lv_aload_n hx hb dX14_names_13 rfl (lv_at hl 0 rfl) ?_
        refine va_get (D := rD g) (ci := 13) (v := .ref (ad 9)) (C := RX14) (T := TX14) (N := 143) hx hb hts in2X14 hown hR.K hR.P 0 (hR.at14 hR.w.1) rfl 24 (by decide) (hts _ kx_210) (fun _ h9 => h9) (congrArg (fun z => some (vf ad z)) (hR.w.2.1 _ fin_24).1) dX14_names_14 ?_
        refine lv_iload_n hx hb dX14_names_17 rfl (lv_at hl 2 rfl) ?_
        obtain ⟨hv9, h⟩ := h
        refine va_iald hx hb hR.K hR.P 9 1 (hR.atI (hR.w.2.1 _ fin_24).2.1) rfl (k_ixN (k_ix (n := 48) (x := v4_2) (a := v4_2.toInt) rfl hv9) (hR.w.2.1 _ fin_24).2.2) dX14_names_18 ?_
        refine lv_topi (fun z10 ez10 => ?_)
        obtain rfl : z10 = (qI U4 9 v4_2.toInt.toNat) := ez10
        refine lv_iconst (v := 2) hx hb dX14_names_19 (by decide) ?_
        refine lv_iadd hx hb dX14_names_20 ?_
        refine lv_topi (fun z11 ez11 => ?_)
        obtain rfl : z11 = ((qI U4 9 v4_2.toInt.toNat) + (2 : Int32)) := ez11
        obtain ⟨Q12, EQ12, h0, h⟩ := h
        have hFc := rfree hR hA
        refine vx_callv (vx_runV (As := [.int ((qI U4 9 v4_2.toInt.toNat) + (2 : Int32))]) (rest := []) ⟨hx, hb, hml, hown, hts⟩ (r_mustName l g ad H.size U4 ((qI U4 9 v4_2.toInt.toNat) + (2 : Int32)) hR.w  Q12 EQ12 h0) (cwV 1 hts (gd2_V kx_223 kx_224 kx_225 kx_177 kx_226) rfl rfl rfl (by decide +kernel) ⟨Nat.le_of_ble_eq_true rfl, Nat.le_of_ble_eq_true rfl⟩) ⟨rblind, va_recv hR.K hR.P (ci := 13) (q0 := 0) rfl (hR.at14 hR.w.1), fun U hU hW9 => rmk hU hW9 hR hex hE hFc⟩ rfl rfl hl.1 rfl (lv_room (Nat.le_of_ble_eq_true rfl)) dX14_names_21 ⟨Nat.le_of_ble_eq_true rfl, Nat.le_of_ble_eq_true rfl⟩) hR.sS (fun q _ h => hFc q h) hFc (fun q _ h => hFc q h) (fun E9 ce9 q9 u9 t9 H1 locs ht9 hvm9 hp9 hB9 hz9 hk9 hS hce9 hcv9 hcl9 => ?_) (fun  S13 t9 H1 locs ht9 hvm9 hw9 hB9 hz9 hk9 hS => ?_)
        · obtain ⟨hp9, hwx, hsx⟩ := hp9
          obtain ⟨rfl, hBx⟩ := hB9
          replace h := h.2 u9 hp9
          have hR : Rep g ad A s u9 H1 locs := hR.call ht9 hBx hwx hS hFc
          have hsh := hsh.tr hsx
          exact vx_out (E := RJxb5711) (q := q9) (fun x h9 => (hnt x h9).elim) hlocks hce9 hcv9 hcl9 (fun t9 ht9 ha9 => ⟨u9, ⟨h, hR.w, hsh⟩, ⟨rfl, by rw [ht9]; exact hR.P, hR.D⟩, hR.sS.F ht9⟩) hR.sS.2.2 (Nat.le_of_ble_eq_true rfl) (Nat.le_of_ble_eq_true rfl)
        · obtain ⟨hq14, hw9, hs9⟩ := hw9
          have hR : Rep g ad A s S13 H1 locs := hR.call ht9 hB9 hw9 hS hFc
          have hsh := hsh.tr hs9
          replace h := h.1  S13 hq14
          clear hB9 hz9 hk9 hvm9 ht9 hw9 hs9 hS
          generalize H1 = H at hR ⊢
          refine lv_aload_n hx hb dX14_names_24 rfl (lv_at hl 0 rfl) ?_
          refine lv_aload_n hx hb dX14_names_25 rfl (lv_at hl 0 rfl) ?_
          refine va_get (D := rD g) (ci := 13) (v := .ref (ad 9)) (C := RX14) (T := TX14) (N := 143) hx hb hts in2X14 hown hR.K hR.P 0 (hR.at14 hR.w.1) rfl 24 (by decide) (hts _ kx_210) (fun _ h9 => h9) (congrArg (fun z => some (vf ad z)) (hR.w.2.1 _ fin_24).1) dX14_names_26 ?_
          refine lv_iload_n hx hb dX14_names_29 rfl (lv_at hl 2 rfl) ?_
          obtain ⟨hv15, h⟩ := h
          refine va_iald hx hb hR.K hR.P 9 1 (hR.atI (hR.w.2.1 _ fin_24).2.1) rfl (k_ixN (k_ix (n := 48) (x := v4_2) (a := v4_2.toInt) rfl hv15) (hR.w.2.1 _ fin_24).2.2) dX14_names_30 ?_
          refine lv_topi (fun z16 ez16 => ?_)
          obtain rfl : z16 = (qI S13 9 v4_2.toInt.toNat) := ez16
          refine lv_iconst (v := 4) hx hb dX14_names_31 (by decide) ?_
          refine lv_iadd hx hb dX14_names_32 ?_
          refine lv_topi (fun z17 ez17 => ?_)
          obtain rfl : z17 = ((qI S13 9 v4_2.toInt.toNat) + (4 : Int32)) := ez17
          obtain ⟨Q18, EQ18, h0, h⟩ := h
          have hFc := rfree hR hA
          refine vx_callv (vx_runV (As := [.int ((qI S13 9 v4_2.toInt.toNat) + (4 : Int32))]) (rest := []) ⟨hx, hb, hml, hown, hts⟩ (r_mustName l g ad H.size S13 ((qI S13 9 v4_2.toInt.toNat) + (4 : Int32)) hR.w  Q18 EQ18 h0) (cwV 1 hts (gd2_V kx_223 kx_224 kx_225 kx_177 kx_226) rfl rfl rfl (by decide +kernel) ⟨Nat.le_of_ble_eq_true rfl, Nat.le_of_ble_eq_true rfl⟩) ⟨rblind, va_recv hR.K hR.P (ci := 13) (q0 := 0) rfl (hR.at14 hR.w.1), fun U hU hW9 => rmk hU hW9 hR hex hE hFc⟩ rfl rfl hl.1 rfl (lv_room (Nat.le_of_ble_eq_true rfl)) dX14_names_33 ⟨Nat.le_of_ble_eq_true rfl, Nat.le_of_ble_eq_true rfl⟩) hR.sS (fun q _ h => hFc q h) hFc (fun q _ h => hFc q h) (fun E9 ce9 q9 u9 t9 H1 locs ht9 hvm9 hp9 hB9 hz9 hk9 hS hce9 hcv9 hcl9 => ?_) (fun  S19 t9 H1 locs ht9 hvm9 hw9 hB9 hz9 hk9 hS => ?_)
          · obtain ⟨hp9, hwx, hsx⟩ := hp9
            obtain ⟨rfl, hBx⟩ := hB9
            replace h := h.2 u9 hp9
            have hR : Rep g ad A s u9 H1 locs := hR.call ht9 hBx hwx hS hFc
            have hsh := hsh.tr hsx
            exact vx_out (E := RJxb5711) (q := q9) (fun x h9 => (hnt x h9).elim) hlocks hce9 hcv9 hcl9 (fun t9 ht9 ha9 => ⟨u9, ⟨h, hR.w, hsh⟩, ⟨rfl, by rw [ht9]; exact hR.P, hR.D⟩, hR.sS.F ht9⟩) hR.sS.2.2 (Nat.le_of_ble_eq_true rfl) (Nat.le_of_ble_eq_true rfl)
          · obtain ⟨hq20, hw9, hs9⟩ := hw9
            have hR : Rep g ad A s S19 H1 locs := hR.call ht9 hB9 hw9 hS hFc
            have hsh := hsh.tr hs9
            replace h := h.1  S19 hq20
            clear hB9 hz9 hk9 hvm9 ht9 hw9 hs9 hS
            generalize H1 = H at hR ⊢
            have J_36 : ∀ (n36 : Nat) (U36 : MS) (v36_1 : Int32) (v36_2 : Int32) (H : Heap) (locs : List Loc) (ls : Array Slot), w_names_L36 Q E (w_names_L4 Q E n4) n36 U36 v36_1 v36_2 → shy S U36 → Rep g ad A s U36 H locs → lv_has ls 3 [(0, .ref (ad 0)), (1, .int v36_1), (2, .int v36_2)] → W p l e (headSpec (wt2 yX14_names cX14_names 3 none) ({ frames := 3, cells := 0, slots := 0, locals := 66 })).room s m ([.ref (ad 0)] : List Value).toArray below meth c H locs 0 0 (vx_MQ below (va_Qv (fun (u : MS) => Q u ∧ wfM u ∧ shy S u) (fun (u : MS) (t : State) => qE g ad A u t) A) ((vx_X (fun (u : MS) => E u ∧ wfM u ∧ shy S u) (fun (n9 : String) (u : MS) (t : State) => n9 = RJxb5711 ∧ qE g ad A u t) A)) ([.ref (ad 0)] : List Value).toArray s 0 0 A) (F0 m 36 ls []) := by
              intro n36
              induction n36 with
              | zero => intro U36 v36_1 v36_2 H locs ls h hsh hR hl; unfold w_names_L36 at h; exact h.elim
              | succ n36 ih_36 =>
                intro U36 v36_1 v36_2 H locs ls h hsh hR hl
                unfold w_names_L36 at h
                refine lv_iload_n hx hb dX14_names_36 rfl (lv_at hl 1 rfl) ?_
                refine lv_aload_n hx hb dX14_names_37 rfl (lv_at hl 0 rfl) ?_
                refine va_get (D := rD g) (ci := 13) (v := .int (qI U36 0 25)) (C := RX14) (T := TX14) (N := 143) hx hb hts in2X14 hown hR.K hR.P 0 (hR.at14 hR.w.1) rfl 25 (by decide) (hts _ kx_206) (fun _ h9 => h9) rfl dX14_names_38 ?_
                have J_70 : ∀ (U70 : MS) (v70_1 : Int32) (v70_2 : Int32) (H : Heap) (locs : List Loc) (ls : Array Slot), w_names_J70 Q E (w_names_L4 Q E n4) U70 v70_1 v70_2 → shy S U70 → Rep g ad A s U70 H locs → lv_has ls 3 [(0, .ref (ad 0)), (1, .int v70_1), (2, .int v70_2)] → W p l e (headSpec (wt2 yX14_names cX14_names 3 none) ({ frames := 3, cells := 0, slots := 0, locals := 66 })).room s m ([.ref (ad 0)] : List Value).toArray below meth c H locs 0 0 (vx_MQ below (va_Qv (fun (u : MS) => Q u ∧ wfM u ∧ shy S u) (fun (u : MS) (t : State) => qE g ad A u t) A) ((vx_X (fun (u : MS) => E u ∧ wfM u ∧ shy S u) (fun (n9 : String) (u : MS) (t : State) => n9 = RJxb5711 ∧ qE g ad A u t) A)) ([.ref (ad 0)] : List Value).toArray s 0 0 A) (F0 m 70 ls []) := by
                  intro U70 v70_1 v70_2 H locs ls h hsh hR hl
                  unfold w_names_J70 at h
                  obtain ⟨a21, ea21⟩ : ∃ z, z = (v70_2 + Int32.ofInt 1) := ⟨_, rfl⟩
                  replace h := h a21 ea21
                  refine lv_iinc (v := a21) (lv' := [(2, .int a21), (0, .ref (ad 0)), (1, .int v70_1)]) hx hb dX14_names_70 hl (k := 2) rfl ea21.symm (by decide) rfl (fun ls hl => ?_)
                  refine lv_goto (tgt := 4) hx hb dX14_names_73 (by decide) ?_
                  exact ih_4 U70 v70_1 a21 _ _ ls h  hsh hR (lv_sub hl [1, 2, 0] rfl)
                refine lv_icmp_ge (tgt := 70) hx hb dX14_names_41 (by decide) (fun c22 => ?_) (fun c22 => ?_)
                · replace h := h.1 (k_le rfl rfl c22)
                  exact J_70 U36 v36_1 v36_2 _ _ ls h  hsh hR (lv_sub hl [0, 1, 2] rfl)
                · replace h := h.2 (k_nle rfl rfl c22)
                  refine lv_aload_n hx hb dX14_names_44 rfl (lv_at hl 0 rfl) ?_
                  refine va_get (D := rD g) (ci := 13) (v := .ref (ad 11)) (C := RX14) (T := TX14) (N := 143) hx hb hts in2X14 hown hR.K hR.P 0 (hR.at14 hR.w.1) rfl 27 (by decide) (hts _ kx_218) (fun _ h9 => h9) (congrArg (fun z => some (vf ad z)) (hR.w.2.1 _ fin_27).1) dX14_names_45 ?_
                  refine lv_iload_n hx hb dX14_names_48 rfl (lv_at hl 1 rfl) ?_
                  obtain ⟨hv23, h⟩ := h
                  refine va_iald hx hb hR.K hR.P 11 1 (hR.atI (hR.w.2.1 _ fin_27).2.1) rfl (k_ixN (k_ix (n := 3000) (x := v36_1) (a := v36_1.toInt) rfl hv23) (hR.w.2.1 _ fin_27).2.2) dX14_names_49 ?_
                  refine lv_topi (fun z24 ez24 => ?_)
                  obtain rfl : z24 = (qI U36 11 v36_1.toInt.toNat) := ez24
                  refine lv_iload_n hx hb dX14_names_50 rfl (lv_at hl 2 rfl) ?_
                  refine lv_icmp_ne (tgt := 70) hx hb dX14_names_51 (by decide) (fun c25 => ?_) (fun c25 => ?_)
                  · replace h := h.2 (k_ne rfl rfl c25)
                    exact J_70 U36 v36_1 v36_2 _ _ ls h  hsh hR (lv_sub hl [0, 1, 2] rfl)
                  · replace h := h.1 (k_eq rfl rfl c25)
                    refine lv_aload_n hx hb dX14_names_54 rfl (lv_at hl 0 rfl) ?_
                    refine lv_aload_n hx hb dX14_names_55 rfl (lv_at hl 0 rfl) ?_
                    refine va_get (D := rD g) (ci := 13) (v := .ref (ad 10)) (C := RX14) (T := TX14) (N := 143) hx hb hts in2X14 hown hR.K hR.P 0 (hR.at14 hR.w.1) rfl 26 (by decide) (hts _ kx_217) (fun _ h9 => h9) (congrArg (fun z => some (vf ad z)) (hR.w.2.1 _ fin_26).1) dX14_names_56 ?_
                    refine lv_iload_n hx hb dX14_names_59 rfl (lv_at hl 1 rfl) ?_
                    obtain ⟨hv26, h⟩ := h
                    refine va_iald hx hb hR.K hR.P 10 1 (hR.atI (hR.w.2.1 _ fin_26).2.1) rfl (k_ixN (k_ix (n := 3000) (x := v36_1) (a := v36_1.toInt) rfl hv26) (hR.w.2.1 _ fin_26).2.2) dX14_names_60 ?_
                    refine lv_topi (fun z27 ez27 => ?_)
                    obtain rfl : z27 = (qI U36 10 v36_1.toInt.toNat) := ez27
                    obtain ⟨Q28, EQ28, h0, h⟩ := h
                    have hFc := rfree hR hA
                    refine vx_callv (vx_runV (As := [.int (qI U36 10 v36_1.toInt.toNat)]) (rest := []) ⟨hx, hb, hml, hown, hts⟩ (r_mustName l g ad H.size U36 (qI U36 10 v36_1.toInt.toNat) hR.w  Q28 EQ28 h0) (cwV 1 hts (gd2_V kx_223 kx_224 kx_225 kx_177 kx_226) rfl rfl rfl (by decide +kernel) ⟨Nat.le_of_ble_eq_true rfl, Nat.le_of_ble_eq_true rfl⟩) ⟨rblind, va_recv hR.K hR.P (ci := 13) (q0 := 0) rfl (hR.at14 hR.w.1), fun U hU hW9 => rmk hU hW9 hR hex hE hFc⟩ rfl rfl hl.1 rfl (lv_room (Nat.le_of_ble_eq_true rfl)) dX14_names_61 ⟨Nat.le_of_ble_eq_true rfl, Nat.le_of_ble_eq_true rfl⟩) hR.sS (fun q _ h => hFc q h) hFc (fun q _ h => hFc q h) (fun E9 ce9 q9 u9 t9 H1 locs ht9 hvm9 hp9 hB9 hz9 hk9 hS hce9 hcv9 hcl9 => ?_) (fun  S29 t9 H1 locs ht9 hvm9 hw9 hB9 hz9 hk9 hS => ?_)
                    · obtain ⟨hp9, hwx, hsx⟩ := hp9
                      obtain ⟨rfl, hBx⟩ := hB9
                      replace h := h.2 u9 hp9
                      have hR : Rep g ad A s u9 H1 locs := hR.call ht9 hBx hwx hS hFc
                      have hsh := hsh.tr hsx
                      exact vx_out (E := RJxb5711) (q := q9) (fun x h9 => (hnt x h9).elim) hlocks hce9 hcv9 hcl9 (fun t9 ht9 ha9 => ⟨u9, ⟨h, hR.w, hsh⟩, ⟨rfl, by rw [ht9]; exact hR.P, hR.D⟩, hR.sS.F ht9⟩) hR.sS.2.2 (Nat.le_of_ble_eq_true rfl) (Nat.le_of_ble_eq_true rfl)
                    · obtain ⟨hq30, hw9, hs9⟩ := hw9
                      have hR : Rep g ad A s S29 H1 locs := hR.call ht9 hB9 hw9 hS hFc
                      have hsh := hsh.tr hs9
                      replace h := h.1  S29 hq30
                      clear hB9 hz9 hk9 hvm9 ht9 hw9 hs9 hS
                      generalize H1 = H at hR ⊢
                      obtain ⟨a31, ea31⟩ : ∃ z, z = (v36_1 + Int32.ofInt 1) := ⟨_, rfl⟩
                      replace h := h a31 ea31
                      refine lv_iinc (v := a31) (lv' := [(1, .int a31), (0, .ref (ad 0)), (2, .int v36_2)]) hx hb dX14_names_64 hl (k := 1) rfl ea31.symm (by decide) rfl (fun ls hl => ?_)
                      refine lv_goto (tgt := 36) hx hb dX14_names_67 (by decide) ?_
                      exact ih_36 S29 a31 v36_2 _ _ ls h  hsh hR (lv_sub hl [1, 0, 2] rfl)
            obtain ⟨n9, h⟩ := h
            exact J_36 n9 S19 v4_1 v4_2 _ _ ls h  hsh hR (lv_sub hl [0, 1, 2] rfl)
  obtain ⟨n9, h⟩ := h
  exact J_4 n9 S 0 0 _ _ ls h  hsh hR (lv_sub hl [2, 1, 0] rfl)
def f_letter (S : MS) (x1 : Int32) (x2 : Int32) : Int32 := (if (qI S 7 x1.toInt.toNat).toInt ≤ x2.toInt then (0 : Int32) else (qI S (qO S 0 11) ((((qI S 6 x1.toInt.toNat) + x2).toInt).toNat)))
def d_letter (S : MS) (x1 : Int32) (x2 : Int32) : Prop := (((0 : Int) ≤ x1.toInt ∧ x1.toInt < 502) ∧ (if (qI S 7 x1.toInt.toNat).toInt ≤ x2.toInt then True else ((qR S 0 11 = some (qO S 0 11)) ∧ (((0 : Int) ≤ x1.toInt ∧ x1.toInt < 502) ∧ (((0 : Int) ≤ ((qI S 6 x1.toInt.toNat) + x2).toInt ∧ ((qI S 6 x1.toInt.toNat) + x2).toInt < (qN S (qO S 0 11) : Int)) ∧ True)))))
set_option maxHeartbeats 2000000 in
set_option maxRecDepth 100000 in
theorem r_letter (l : Launch) (g : Gr) (ad : Nat → Nat) (sz : Nat) (S : MS) (x1 : Int32) (x2 : Int32) (hw : wfM S) (hd : d_letter S x1 x2) : Met l yX14_letter (wt2 yX14_letter cX14_letter 3 (some .int)) ({ frames := 0, cells := 0, slots := 0, locals := 0 }) (va_Pc [.ref (ad 0), .int x1, .int x2] (st_R g ad sz S)) (va_Qi (fun (r : Int32) (_ : Unit) => r = f_letter S x1 x2) (fun (_ : Unit) (t : State) => qE g ad (va_A (Wd g ad S) sz) S t) (va_A (Wd g ad S) sz)) 0 0 (va_A (Wd g ad S) sz) := by
  refine Met.ofW (cc := cX14_letter) (maxL := 3) (ret := (some .int)) (by decide) rfl ?_
  intro p e s m args below meth c s₁ B hml hv
  obtain ⟨rfl, hsz, hP, hK, hD0, hex, hE⟩ := hv
  have hx := B.exec
  have hb := B.bytes
  have hr := B.returns
  have hts0 := atoms_spec (ws := wt2 yX14_letter cX14_letter 3 (some .int)) B.pre
  have hts : ∀ w ∈ tb2, w.before _ s = true := fun w h => hts0 w (List.mem_cons_of_mem _ h)
  have hown : s.vm.findClass RX14 = some m.cls := findClass_of_methodNamed B.named
  subst hsz
  have hD := hD0.self (sz := s.heap.size)
  generalize hAe : va_A (Wd g ad S) s.heap.size = A at hD hE ⊢
  have hA : ∀ q : Nat, s.heap.size ≤ q → A q := fun q h => by rw [← hAe]; exact Or.inr h
  have hR : Rep g ad A s S s.heap [] := ⟨hK, hP, hD, va_S.rf, hw⟩
  clear hK hP hD hD0
  have hl := lv_entry ([.ref (ad 0), .int x1, .int x2]) (n := 3) (Nat.le_of_ble_eq_true rfl)
  rw [lg_entry_eq]
  generalize (lg_sl ([.ref (ad 0), .int x1, .int x2]) ++ List.replicate (3 - (lg_sl ([.ref (ad 0), .int x1, .int x2])).length) Slot.unset).toArray = ls at hl ⊢
  have hl : lv_has ls 3 [(0, .ref (ad 0)), (1, .int x1), (2, .int x2)] := hl
  obtain ⟨r0, hf⟩ : ∃ r0, f_letter S x1 x2 = r0 := ⟨_, rfl⟩
  have hf0 := hf
  unfold f_letter at hf
  unfold d_letter at hd
  refine lv_iload_n hx hb dX14_letter_0 rfl (lv_at hl 2 rfl) ?_
  refine lv_aload_n hx hb dX14_letter_1 rfl (lv_at hl 0 rfl) ?_
  refine va_get (D := rD g) (ci := 13) (v := .ref (ad 7)) (C := RX14) (T := TX14) (N := 143) hx hb hts in2X14 hown hR.K hR.P 0 (hR.at14 hR.w.1) rfl 18 (by decide) (hts _ kx_209) (fun _ h9 => h9) (congrArg (fun z => some (vf ad z)) (hR.w.2.1 _ fin_18).1) dX14_letter_2 ?_
  refine lv_iload_n hx hb dX14_letter_5 rfl (lv_at hl 1 rfl) ?_
  obtain ⟨hv1, hd⟩ := hd
  refine va_iald hx hb hR.K hR.P 7 1 (hR.atI (hR.w.2.1 _ fin_18).2.1) rfl (k_ixN (k_ix (n := 502) (x := x1) (a := x1.toInt) rfl hv1) (hR.w.2.1 _ fin_18).2.2) dX14_letter_6 ?_
  refine lv_topi (fun z2 ez2 => ?_)
  obtain rfl : z2 = (qI S 7 x1.toInt.toNat) := ez2
  refine lv_icmp_ge (tgt := 26) hx hb dX14_letter_7 (by decide) (fun c3 => ?_) (fun c3 => ?_)
  · rw [if_pos (k_le rfl rfl c3)] at hf
    (try rw [if_pos (k_le rfl rfl c3)] at hd)
    refine lv_iconst (v := 0) hx hb dX14_letter_26 (by decide) ?_
    exact W.iret (v := 0) hx hb hr (fun t9 ht9 hW9 => ⟨⟨_, (), rfl, hf.trans hf0.symm, ⟨by rw [ht9]; exact hR.P, hR.D⟩⟩, hR.sS.F ht9⟩) hR.sS.2.2 dX14_letter_27
  · rw [if_neg (k_nle rfl rfl c3)] at hf
    (try rw [if_neg (k_nle rfl rfl c3)] at hd)
    refine lv_aload_n hx hb dX14_letter_10 rfl (lv_at hl 0 rfl) ?_
    obtain ⟨hv4, hd⟩ := hd
    have hT_b5 : qT S (qO S 0 11) = 1 := hR.w.ref hv4 hR.w.1
    refine va_get (D := rD g) (ci := 13) (v := .ref (ad (qO S 0 11))) (C := RX14) (T := TX14) (N := 143) hx hb hts in2X14 hown hR.K hR.P 0 (hR.at14 hR.w.1) rfl 11 (by decide) (hts _ kx_181) (fun _ h9 => h9) (congrArg (fun z => some (vf ad z)) hv4) dX14_letter_11 ?_
    refine lv_aload_n hx hb dX14_letter_14 rfl (lv_at hl 0 rfl) ?_
    refine va_get (D := rD g) (ci := 13) (v := .ref (ad 6)) (C := RX14) (T := TX14) (N := 143) hx hb hts in2X14 hown hR.K hR.P 0 (hR.at14 hR.w.1) rfl 17 (by decide) (hts _ kx_208) (fun _ h9 => h9) (congrArg (fun z => some (vf ad z)) (hR.w.2.1 _ fin_17).1) dX14_letter_15 ?_
    refine lv_iload_n hx hb dX14_letter_18 rfl (lv_at hl 1 rfl) ?_
    obtain ⟨hv6, hd⟩ := hd
    refine va_iald hx hb hR.K hR.P 6 1 (hR.atI (hR.w.2.1 _ fin_17).2.1) rfl (k_ixN (k_ix (n := 502) (x := x1) (a := x1.toInt) rfl hv6) (hR.w.2.1 _ fin_17).2.2) dX14_letter_19 ?_
    refine lv_topi (fun z7 ez7 => ?_)
    obtain rfl : z7 = (qI S 6 x1.toInt.toNat) := ez7
    refine lv_iload_n hx hb dX14_letter_20 rfl (lv_at hl 2 rfl) ?_
    refine lv_iadd hx hb dX14_letter_21 ?_
    refine lv_topi (fun z8 ez8 => ?_)
    obtain rfl : z8 = ((qI S 6 x1.toInt.toNat) + x2) := ez8
    obtain ⟨hv9, hd⟩ := hd
    refine va_bald hx hb hR.K hR.P (qO S 0 11) 0 (hR.atB hT_b5) rfl (k_ix (x := ((qI S 6 x1.toInt.toNat) + x2)) (a := ((qI S 6 x1.toInt.toNat) + x2).toInt) rfl hv9) dX14_letter_22 ?_
    refine lv_topi (fun z10 ez10 => ?_)
    obtain rfl : z10 = (qI S (qO S 0 11) ((((qI S 6 x1.toInt.toNat) + x2).toInt).toNat)) := ez10
    refine lv_goto (tgt := 27) hx hb dX14_letter_23 (by decide) ?_
    exact W.iret (v := (qI S (qO S 0 11) ((((qI S 6 x1.toInt.toNat) + x2).toInt).toNat))) hx hb hr (fun t9 ht9 hW9 => ⟨⟨_, (), rfl, hf.trans hf0.symm, ⟨by rw [ht9]; exact hR.P, hR.D⟩⟩, hR.sS.F ht9⟩) hR.sS.2.2 dX14_letter_27
def f_typeAt_J52 (S : MS) : Int32 := (0 : Int32)
def d_typeAt_J52 (S : MS) : Prop := True
def f_typeAt (S : MS) (x1 : Int32) (x2 : Int32) : Int32 := (if (f_letter S x1 x2).toInt = 73 then (1 : Int32) else (if (f_letter S x1 x2).toInt = 74 then (1 : Int32) else (if (f_letter S x1 x2).toInt = 91 then (if (f_letter S x1 (x2 + (1 : Int32))).toInt = 73 then (2 : Int32) else f_typeAt_J52 S) else f_typeAt_J52 S)))
def d_typeAt (S : MS) (x1 : Int32) (x2 : Int32) : Prop := (d_letter S x1 x2 ∧ (if (f_letter S x1 x2).toInt = 73 then True else (d_letter S x1 x2 ∧ (if (f_letter S x1 x2).toInt = 74 then True else (d_letter S x1 x2 ∧ (if (f_letter S x1 x2).toInt = 91 then (d_letter S x1 (x2 + (1 : Int32)) ∧ (if (f_letter S x1 (x2 + (1 : Int32))).toInt = 73 then True else d_typeAt_J52 S)) else d_typeAt_J52 S))))))
set_option maxHeartbeats 2000000 in
set_option maxRecDepth 100000 in
theorem r_typeAt (l : Launch) (g : Gr) (ad : Nat → Nat) (sz : Nat) (S : MS) (x1 : Int32) (x2 : Int32) (hw : wfM S) (hd : d_typeAt S x1 x2) : Met l yX14_typeAt (wt2 yX14_typeAt cX14_typeAt 3 (some .int)) ({ frames := 1, cells := 0, slots := 0, locals := 22 }) (va_Pc [.ref (ad 0), .int x1, .int x2] (st_R g ad sz S)) (va_Qi (fun (r : Int32) (_ : Unit) => r = f_typeAt S x1 x2) (fun (_ : Unit) (t : State) => qE g ad (va_A (Wd g ad S) sz) S t) (va_A (Wd g ad S) sz)) 0 0 (va_A (Wd g ad S) sz) := by
  refine Met.ofW (cc := cX14_typeAt) (maxL := 3) (ret := (some .int)) (by decide) rfl ?_
  intro p e s m args below meth c s₁ B hml hv
  obtain ⟨rfl, hsz, hP, hK, hD0, hex, hE⟩ := hv
  have hx := B.exec
  have hb := B.bytes
  have hr := B.returns
  have hts0 := atoms_spec (ws := wt2 yX14_typeAt cX14_typeAt 3 (some .int)) B.pre
  have hts : ∀ w ∈ tb2, w.before _ s = true := fun w h => hts0 w (List.mem_cons_of_mem _ h)
  have hown : s.vm.findClass RX14 = some m.cls := findClass_of_methodNamed B.named
  subst hsz
  have hD := hD0.self (sz := s.heap.size)
  generalize hAe : va_A (Wd g ad S) s.heap.size = A at hD hE ⊢
  have hA : ∀ q : Nat, s.heap.size ≤ q → A q := fun q h => by rw [← hAe]; exact Or.inr h
  have hR : Rep g ad A s S s.heap [] := ⟨hK, hP, hD, va_S.rf, hw⟩
  clear hK hP hD hD0
  have hl := lv_entry ([.ref (ad 0), .int x1, .int x2]) (n := 3) (Nat.le_of_ble_eq_true rfl)
  rw [lg_entry_eq]
  generalize (lg_sl ([.ref (ad 0), .int x1, .int x2]) ++ List.replicate (3 - (lg_sl ([.ref (ad 0), .int x1, .int x2])).length) Slot.unset).toArray = ls at hl ⊢
  have hl : lv_has ls 3 [(0, .ref (ad 0)), (1, .int x1), (2, .int x2)] := hl
  obtain ⟨r0, hf⟩ : ∃ r0, f_typeAt S x1 x2 = r0 := ⟨_, rfl⟩
  have hf0 := hf
  unfold f_typeAt at hf
  unfold d_typeAt at hd
  refine lv_aload_n hx hb dX14_typeAt_0 rfl (lv_at hl 0 rfl) ?_
  refine lv_iload_n hx hb dX14_typeAt_1 rfl (lv_at hl 1 rfl) ?_
  refine lv_iload_n hx hb dX14_typeAt_2 rfl (lv_at hl 2 rfl) ?_
  obtain ⟨hv1, hd⟩ := hd
  have hFc := rfree hR hA
  refine va_calli (va_runV (As := [.int x1, .int x2]) (rest := []) ⟨hx, hb, hml, hown, hts⟩ (r_letter l g ad s.heap.size S x1 x2 hR.w  hv1) (cwV 2 hts (gd2_V kx_227 kx_228 kx_229 kx_177 kx_230) rfl rfl rfl (by decide +kernel) ⟨Nat.le_of_ble_eq_true rfl, Nat.le_of_ble_eq_true rfl⟩) ⟨rblind, va_recv hR.K hR.P (ci := 13) (q0 := 0) rfl (hR.at14 hR.w.1), fun U hU hW9 => rmk hU hW9 hR hex hE hFc⟩ rfl rfl hl.1 rfl (lv_room (Nat.le_of_ble_eq_true rfl)) dX14_typeAt_3 ⟨Nat.le_of_ble_eq_true rfl, Nat.le_of_ble_eq_true rfl⟩) hR.sS (fun q _ h => hFc q h) hFc (fun r2 u9 t9 H1 locs ht9 hvm9 hw9 hB9 hz9 hk9 hS => ?_)
  have hR : Rep g ad A s S H1 locs := hR.call ht9 hB9 hR.w hS hFc
  obtain rfl : r2 = (f_letter S x1 x2) := hw9
  clear hB9 hz9 hk9 hvm9 ht9 hS
  generalize H1 = H at hR ⊢
  refine lv_bipush (v := 73) hx hb dX14_typeAt_6 (by decide) ?_
  refine lv_icmp_eq (tgt := 22) hx hb dX14_typeAt_8 (by decide) (fun c4 => ?_) (fun c4 => ?_)
  · rw [if_pos (k_eq rfl (by decide) c4)] at hf
    (try rw [if_pos (k_eq rfl (by decide) c4)] at hd)
    refine lv_iconst (v := 1) hx hb dX14_typeAt_22 (by decide) ?_
    exact W.iret (v := 1) hx hb hr (fun t9 ht9 hW9 => ⟨⟨_, (), rfl, hf.trans hf0.symm, ⟨by rw [ht9]; exact hR.P, hR.D⟩⟩, hR.sS.F ht9⟩) hR.sS.2.2 dX14_typeAt_23
  · rw [if_neg (k_ne rfl (by decide) c4)] at hf
    (try rw [if_neg (k_ne rfl (by decide) c4)] at hd)
    refine lv_aload_n hx hb dX14_typeAt_11 rfl (lv_at hl 0 rfl) ?_
    refine lv_iload_n hx hb dX14_typeAt_12 rfl (lv_at hl 1 rfl) ?_
    refine lv_iload_n hx hb dX14_typeAt_13 rfl (lv_at hl 2 rfl) ?_
    obtain ⟨hv5, hd⟩ := hd
    have hFc := rfree hR hA
    refine va_calli (va_runV (As := [.int x1, .int x2]) (rest := []) ⟨hx, hb, hml, hown, hts⟩ (r_letter l g ad H.size S x1 x2 hR.w  hv5) (cwV 2 hts (gd2_V kx_227 kx_228 kx_229 kx_177 kx_230) rfl rfl rfl (by decide +kernel) ⟨Nat.le_of_ble_eq_true rfl, Nat.le_of_ble_eq_true rfl⟩) ⟨rblind, va_recv hR.K hR.P (ci := 13) (q0 := 0) rfl (hR.at14 hR.w.1), fun U hU hW9 => rmk hU hW9 hR hex hE hFc⟩ rfl rfl hl.1 rfl (lv_room (Nat.le_of_ble_eq_true rfl)) dX14_typeAt_14 ⟨Nat.le_of_ble_eq_true rfl, Nat.le_of_ble_eq_true rfl⟩) hR.sS (fun q _ h => hFc q h) hFc (fun r6 u9 t9 H1 locs ht9 hvm9 hw9 hB9 hz9 hk9 hS => ?_)
    have hR : Rep g ad A s S H1 locs := hR.call ht9 hB9 hR.w hS hFc
    obtain rfl : r6 = (f_letter S x1 x2) := hw9
    clear hB9 hz9 hk9 hvm9 ht9 hS
    generalize H1 = H at hR ⊢
    refine lv_bipush (v := 74) hx hb dX14_typeAt_17 (by decide) ?_
    refine lv_icmp_ne (tgt := 24) hx hb dX14_typeAt_19 (by decide) (fun c8 => ?_) (fun c8 => ?_)
    · rw [if_neg (k_ne rfl (by decide) c8)] at hf
      (try rw [if_neg (k_ne rfl (by decide) c8)] at hd)
      refine lv_aload_n hx hb dX14_typeAt_24 rfl (lv_at hl 0 rfl) ?_
      refine lv_iload_n hx hb dX14_typeAt_25 rfl (lv_at hl 1 rfl) ?_
      refine lv_iload_n hx hb dX14_typeAt_26 rfl (lv_at hl 2 rfl) ?_
      obtain ⟨hv9, hd⟩ := hd
      have hFc := rfree hR hA
      refine va_calli (va_runV (As := [.int x1, .int x2]) (rest := []) ⟨hx, hb, hml, hown, hts⟩ (r_letter l g ad H.size S x1 x2 hR.w  hv9) (cwV 2 hts (gd2_V kx_227 kx_228 kx_229 kx_177 kx_230) rfl rfl rfl (by decide +kernel) ⟨Nat.le_of_ble_eq_true rfl, Nat.le_of_ble_eq_true rfl⟩) ⟨rblind, va_recv hR.K hR.P (ci := 13) (q0 := 0) rfl (hR.at14 hR.w.1), fun U hU hW9 => rmk hU hW9 hR hex hE hFc⟩ rfl rfl hl.1 rfl (lv_room (Nat.le_of_ble_eq_true rfl)) dX14_typeAt_27 ⟨Nat.le_of_ble_eq_true rfl, Nat.le_of_ble_eq_true rfl⟩) hR.sS (fun q _ h => hFc q h) hFc (fun r10 u9 t9 H1 locs ht9 hvm9 hw9 hB9 hz9 hk9 hS => ?_)
      have hR : Rep g ad A s S H1 locs := hR.call ht9 hB9 hR.w hS hFc
      obtain rfl : r10 = (f_letter S x1 x2) := hw9
      clear hB9 hz9 hk9 hvm9 ht9 hS
      generalize H1 = H at hR ⊢
      refine lv_bipush (v := 91) hx hb dX14_typeAt_30 (by decide) ?_
      have J_52 : ∀ (H : Heap) (locs : List Loc) (ls : Array Slot), d_typeAt_J52 S → f_typeAt_J52 S = r0 → Rep g ad A s S H locs → lv_has ls 3 [] → W p l e (headSpec (wt2 yX14_typeAt cX14_typeAt 3 (some .int)) ({ frames := 1, cells := 0, slots := 0, locals := 22 })).room s m ([.ref (ad 0), .int x1, .int x2] : List Value).toArray below meth c H locs 0 0 (MQ below (va_Qi (fun (r : Int32) (_ : Unit) => r = f_typeAt S x1 x2) (fun (_ : Unit) (t : State) => qE g ad A S t) A) ([.ref (ad 0), .int x1, .int x2] : List Value).toArray s 0 0 A) (F0 m 52 ls []) := by
        intro H locs ls hd hf hR hl
        unfold d_typeAt_J52 at hd
        unfold f_typeAt_J52 at hf
        refine lv_iconst (v := 0) hx hb dX14_typeAt_52 (by decide) ?_
        exact W.iret (v := 0) hx hb hr (fun t9 ht9 hW9 => ⟨⟨_, (), rfl, hf.trans hf0.symm, ⟨by rw [ht9]; exact hR.P, hR.D⟩⟩, hR.sS.F ht9⟩) hR.sS.2.2 dX14_typeAt_53
      refine lv_icmp_ne (tgt := 52) hx hb dX14_typeAt_32 (by decide) (fun c12 => ?_) (fun c12 => ?_)
      · rw [if_neg (k_ne rfl (by decide) c12)] at hf
        (try rw [if_neg (k_ne rfl (by decide) c12)] at hd)
        exact J_52 _ _ ls hd hf  hR (lv_sub hl [] rfl)
      · rw [if_pos (k_eq rfl (by decide) c12)] at hf
        (try rw [if_pos (k_eq rfl (by decide) c12)] at hd)
        refine lv_aload_n hx hb dX14_typeAt_35 rfl (lv_at hl 0 rfl) ?_
        refine lv_iload_n hx hb dX14_typeAt_36 rfl (lv_at hl 1 rfl) ?_
        refine lv_iload_n hx hb dX14_typeAt_37 rfl (lv_at hl 2 rfl) ?_
        refine lv_iconst (v := 1) hx hb dX14_typeAt_38 (by decide) ?_
        refine lv_iadd hx hb dX14_typeAt_39 ?_
        refine lv_topi (fun z13 ez13 => ?_)
        obtain rfl : z13 = (x2 + (1 : Int32)) := ez13
        obtain ⟨hv14, hd⟩ := hd
        have hFc := rfree hR hA
        refine va_calli (va_runV (As := [.int x1, .int (x2 + (1 : Int32))]) (rest := []) ⟨hx, hb, hml, hown, hts⟩ (r_letter l g ad H.size S x1 (x2 + (1 : Int32)) hR.w  hv14) (cwV 2 hts (gd2_V kx_227 kx_228 kx_229 kx_177 kx_230) rfl rfl rfl (by decide +kernel) ⟨Nat.le_of_ble_eq_true rfl, Nat.le_of_ble_eq_true rfl⟩) ⟨rblind, va_recv hR.K hR.P (ci := 13) (q0 := 0) rfl (hR.at14 hR.w.1), fun U hU hW9 => rmk hU hW9 hR hex hE hFc⟩ rfl rfl hl.1 rfl (lv_room (Nat.le_of_ble_eq_true rfl)) dX14_typeAt_40 ⟨Nat.le_of_ble_eq_true rfl, Nat.le_of_ble_eq_true rfl⟩) hR.sS (fun q _ h => hFc q h) hFc (fun r15 u9 t9 H1 locs ht9 hvm9 hw9 hB9 hz9 hk9 hS => ?_)
        have hR : Rep g ad A s S H1 locs := hR.call ht9 hB9 hR.w hS hFc
        obtain rfl : r15 = (f_letter S x1 (x2 + (1 : Int32))) := hw9
        clear hB9 hz9 hk9 hvm9 ht9 hS
        generalize H1 = H at hR ⊢
        refine lv_bipush (v := 73) hx hb dX14_typeAt_43 (by decide) ?_
        refine lv_icmp_ne (tgt := 52) hx hb dX14_typeAt_45 (by decide) (fun c17 => ?_) (fun c17 => ?_)
        · rw [if_neg (k_ne rfl (by decide) c17)] at hf
          (try rw [if_neg (k_ne rfl (by decide) c17)] at hd)
          exact J_52 _ _ ls hd hf  hR (lv_sub hl [] rfl)
        · rw [if_pos (k_eq rfl (by decide) c17)] at hf
          (try rw [if_pos (k_eq rfl (by decide) c17)] at hd)
          refine lv_iconst (v := 2) hx hb dX14_typeAt_48 (by decide) ?_
          refine lv_goto (tgt := 53) hx hb dX14_typeAt_49 (by decide) ?_
          exact W.iret (v := 2) hx hb hr (fun t9 ht9 hW9 => ⟨⟨_, (), rfl, hf.trans hf0.symm, ⟨by rw [ht9]; exact hR.P, hR.D⟩⟩, hR.sS.F ht9⟩) hR.sS.2.2 dX14_typeAt_53
    · rw [if_pos (k_eq rfl (by decide) c8)] at hf
      (try rw [if_pos (k_eq rfl (by decide) c8)] at hd)
      refine lv_iconst (v := 1) hx hb dX14_typeAt_22 (by decide) ?_
      exact W.iret (v := 1) hx hb hr (fun t9 ht9 hW9 => ⟨⟨_, (), rfl, hf.trans hf0.symm, ⟨by rw [ht9]; exact hR.P, hR.D⟩⟩, hR.sS.F ht9⟩) hR.sS.2.2 dX14_typeAt_23
def f_isType_J28 (S : MS) : Int32 := (0 : Int32)
def d_isType_J28 (S : MS) : Prop := True
def f_isType (S : MS) (x1 : Int32) : Int32 := (if (f_typeAt S x1 (0 : Int32)).toInt ≤ 0 then f_isType_J28 S else (if (f_typeAt S x1 (0 : Int32)).toInt = (qI S 7 x1.toInt.toNat).toInt then (1 : Int32) else f_isType_J28 S))
def d_isType (S : MS) (x1 : Int32) : Prop := (d_typeAt S x1 (0 : Int32) ∧ (if (f_typeAt S x1 (0 : Int32)).toInt ≤ 0 then d_isType_J28 S else (d_typeAt S x1 (0 : Int32) ∧ (((0 : Int) ≤ x1.toInt ∧ x1.toInt < 502) ∧ (if (f_typeAt S x1 (0 : Int32)).toInt = (qI S 7 x1.toInt.toNat).toInt then True else d_isType_J28 S)))))
set_option maxHeartbeats 2000000 in
set_option maxRecDepth 100000 in
theorem r_isType (l : Launch) (g : Gr) (ad : Nat → Nat) (sz : Nat) (S : MS) (x1 : Int32) (hw : wfM S) (hd : d_isType S x1) : Met l yX14_isType (wt2 yX14_isType cX14_isType 2 (some .boolean)) ({ frames := 2, cells := 0, slots := 0, locals := 44 }) (va_Pc [.ref (ad 0), .int x1] (st_R g ad sz S)) (va_Qi (fun (r : Int32) (_ : Unit) => r = f_isType S x1 ∧ (r = 0 ∨ r = 1)) (fun (_ : Unit) (t : State) => qE g ad (va_A (Wd g ad S) sz) S t) (va_A (Wd g ad S) sz)) 0 0 (va_A (Wd g ad S) sz) := by
  refine Met.ofW (cc := cX14_isType) (maxL := 2) (ret := (some .boolean)) (by decide) rfl ?_
  intro p e s m args below meth c s₁ B hml hv
  obtain ⟨rfl, hsz, hP, hK, hD0, hex, hE⟩ := hv
  have hx := B.exec
  have hb := B.bytes
  have hr := B.returns
  have hts0 := atoms_spec (ws := wt2 yX14_isType cX14_isType 2 (some .boolean)) B.pre
  have hts : ∀ w ∈ tb2, w.before _ s = true := fun w h => hts0 w (List.mem_cons_of_mem _ h)
  have hown : s.vm.findClass RX14 = some m.cls := findClass_of_methodNamed B.named
  subst hsz
  have hD := hD0.self (sz := s.heap.size)
  generalize hAe : va_A (Wd g ad S) s.heap.size = A at hD hE ⊢
  have hA : ∀ q : Nat, s.heap.size ≤ q → A q := fun q h => by rw [← hAe]; exact Or.inr h
  have hR : Rep g ad A s S s.heap [] := ⟨hK, hP, hD, va_S.rf, hw⟩
  clear hK hP hD hD0
  have hl := lv_entry ([.ref (ad 0), .int x1]) (n := 2) (Nat.le_of_ble_eq_true rfl)
  rw [lg_entry_eq]
  generalize (lg_sl ([.ref (ad 0), .int x1]) ++ List.replicate (2 - (lg_sl ([.ref (ad 0), .int x1])).length) Slot.unset).toArray = ls at hl ⊢
  have hl : lv_has ls 2 [(0, .ref (ad 0)), (1, .int x1)] := hl
  obtain ⟨r0, hf⟩ : ∃ r0, f_isType S x1 = r0 := ⟨_, rfl⟩
  have hf0 := hf
  unfold f_isType at hf
  unfold d_isType at hd
  refine lv_aload_n hx hb dX14_isType_0 rfl (lv_at hl 0 rfl) ?_
  refine lv_iload_n hx hb dX14_isType_1 rfl (lv_at hl 1 rfl) ?_
  refine lv_iconst (v := 0) hx hb dX14_isType_2 (by decide) ?_
  obtain ⟨hv1, hd⟩ := hd
  have hFc := rfree hR hA
  refine va_calli (va_runV (As := [.int x1, .int 0]) (rest := []) ⟨hx, hb, hml, hown, hts⟩ (r_typeAt l g ad s.heap.size S x1 (0 : Int32) hR.w  hv1) (cwV 2 hts (gd2_V kx_231 kx_232 kx_233 kx_177 kx_234) rfl rfl rfl (by decide +kernel) ⟨Nat.le_of_ble_eq_true rfl, Nat.le_of_ble_eq_true rfl⟩) ⟨rblind, va_recv hR.K hR.P (ci := 13) (q0 := 0) rfl (hR.at14 hR.w.1), fun U hU hW9 => rmk hU hW9 hR hex hE hFc⟩ rfl rfl hl.1 rfl (lv_room (Nat.le_of_ble_eq_true rfl)) dX14_isType_3 ⟨Nat.le_of_ble_eq_true rfl, Nat.le_of_ble_eq_true rfl⟩) hR.sS (fun q _ h => hFc q h) hFc (fun r2 u9 t9 H1 locs ht9 hvm9 hw9 hB9 hz9 hk9 hS => ?_)
  have hR : Rep g ad A s S H1 locs := hR.call ht9 hB9 hR.w hS hFc
  obtain rfl : r2 = (f_typeAt S x1 (0 : Int32)) := hw9
  clear hB9 hz9 hk9 hvm9 ht9 hS
  generalize H1 = H at hR ⊢
  have J_28 : ∀ (H : Heap) (locs : List Loc) (ls : Array Slot), d_isType_J28 S → f_isType_J28 S = r0 → Rep g ad A s S H locs → lv_has ls 2 [] → W p l e (headSpec (wt2 yX14_isType cX14_isType 2 (some .boolean)) ({ frames := 2, cells := 0, slots := 0, locals := 44 })).room s m ([.ref (ad 0), .int x1] : List Value).toArray below meth c H locs 0 0 (MQ below (va_Qi (fun (r : Int32) (_ : Unit) => r = f_isType S x1 ∧ (r = 0 ∨ r = 1)) (fun (_ : Unit) (t : State) => qE g ad A S t) A) ([.ref (ad 0), .int x1] : List Value).toArray s 0 0 A) (F0 m 28 ls []) := by
    intro H locs ls hd hf hR hl
    unfold d_isType_J28 at hd
    unfold f_isType_J28 at hf
    refine lv_iconst (v := 0) hx hb dX14_isType_28 (by decide) ?_
    exact W.zret (v := 0) hx hb hr (nz (Or.inl rfl)) (fun t9 ht9 hW9 => ⟨⟨_, (), rfl, ⟨hf.trans hf0.symm, (Or.inl rfl)⟩, ⟨by rw [ht9]; exact hR.P, hR.D⟩⟩, hR.sS.F ht9⟩) hR.sS.2.2 dX14_isType_29
  refine lv_if_le (tgt := 28) hx hb dX14_isType_6 (by decide) (fun c4 => ?_) (fun c4 => ?_)
  · rw [if_pos (k_le rfl (by decide) c4)] at hf
    (try rw [if_pos (k_le rfl (by decide) c4)] at hd)
    exact J_28 _ _ ls hd hf  hR (lv_sub hl [] rfl)
  · rw [if_neg (k_nle rfl (by decide) c4)] at hf
    (try rw [if_neg (k_nle rfl (by decide) c4)] at hd)
    refine lv_aload_n hx hb dX14_isType_9 rfl (lv_at hl 0 rfl) ?_
    refine lv_iload_n hx hb dX14_isType_10 rfl (lv_at hl 1 rfl) ?_
    refine lv_iconst (v := 0) hx hb dX14_isType_11 (by decide) ?_
    obtain ⟨hv5, hd⟩ := hd
    have hFc := rfree hR hA
    refine va_calli (va_runV (As := [.int x1, .int 0]) (rest := []) ⟨hx, hb, hml, hown, hts⟩ (r_typeAt l g ad H.size S x1 (0 : Int32) hR.w  hv5) (cwV 2 hts (gd2_V kx_231 kx_232 kx_233 kx_177 kx_234) rfl rfl rfl (by decide +kernel) ⟨Nat.le_of_ble_eq_true rfl, Nat.le_of_ble_eq_true rfl⟩) ⟨rblind, va_recv hR.K hR.P (ci := 13) (q0 := 0) rfl (hR.at14 hR.w.1), fun U hU hW9 => rmk hU hW9 hR hex hE hFc⟩ rfl rfl hl.1 rfl (lv_room (Nat.le_of_ble_eq_true rfl)) dX14_isType_12 ⟨Nat.le_of_ble_eq_true rfl, Nat.le_of_ble_eq_true rfl⟩) hR.sS (fun q _ h => hFc q h) hFc (fun r6 u9 t9 H1 locs ht9 hvm9 hw9 hB9 hz9 hk9 hS => ?_)
    have hR : Rep g ad A s S H1 locs := hR.call ht9 hB9 hR.w hS hFc
    obtain rfl : r6 = (f_typeAt S x1 (0 : Int32)) := hw9
    clear hB9 hz9 hk9 hvm9 ht9 hS
    generalize H1 = H at hR ⊢
    refine lv_aload_n hx hb dX14_isType_15 rfl (lv_at hl 0 rfl) ?_
    refine va_get (D := rD g) (ci := 13) (v := .ref (ad 7)) (C := RX14) (T := TX14) (N := 143) hx hb hts in2X14 hown hR.K hR.P 0 (hR.at14 hR.w.1) rfl 18 (by decide) (hts _ kx_209) (fun _ h9 => h9) (congrArg (fun z => some (vf ad z)) (hR.w.2.1 _ fin_18).1) dX14_isType_16 ?_
    refine lv_iload_n hx hb dX14_isType_19 rfl (lv_at hl 1 rfl) ?_
    obtain ⟨hv8, hd⟩ := hd
    refine va_iald hx hb hR.K hR.P 7 1 (hR.atI (hR.w.2.1 _ fin_18).2.1) rfl (k_ixN (k_ix (n := 502) (x := x1) (a := x1.toInt) rfl hv8) (hR.w.2.1 _ fin_18).2.2) dX14_isType_20 ?_
    refine lv_topi (fun z9 ez9 => ?_)
    obtain rfl : z9 = (qI S 7 x1.toInt.toNat) := ez9
    refine lv_icmp_ne (tgt := 28) hx hb dX14_isType_21 (by decide) (fun c10 => ?_) (fun c10 => ?_)
    · rw [if_neg (k_ne rfl rfl c10)] at hf
      (try rw [if_neg (k_ne rfl rfl c10)] at hd)
      exact J_28 _ _ ls hd hf  hR (lv_sub hl [] rfl)
    · rw [if_pos (k_eq rfl rfl c10)] at hf
      (try rw [if_pos (k_eq rfl rfl c10)] at hd)
      refine lv_iconst (v := 1) hx hb dX14_isType_24 (by decide) ?_
      refine lv_goto (tgt := 29) hx hb dX14_isType_25 (by decide) ?_
      exact W.zret (v := 1) hx hb hr (nz (Or.inr rfl)) (fun t9 ht9 hW9 => ⟨⟨_, (), rfl, ⟨hf.trans hf0.symm, (Or.inr rfl)⟩, ⟨by rw [ht9]; exact hR.P, hR.D⟩⟩, hR.sS.F ht9⟩) hR.sS.2.2 dX14_isType_29
def w_parameterPlaces_J118 (Q : Int32 → MS → Prop) (U118 : MS) : Prop := Q (-1 : Int32) U118
def w_parameterPlaces_J94 (Q : Int32 → MS → Prop) (U94 : MS) (t94_0 : Int32) (v94_1 : Int32) (v94_2 : Int32) (v94_3 : Int32) : Prop := ((t94_0.toInt ≤ 0 → w_parameterPlaces_J118 Q U94) ∧ (¬ t94_0.toInt ≤ 0 → (((0 : Int) ≤ v94_1.toInt ∧ v94_1.toInt < 502) ∧ (((v94_2 + t94_0).toInt = (qI U94 7 v94_1.toInt.toNat).toInt → Q v94_3 U94) ∧ (¬ (v94_2 + t94_0).toInt = (qI U94 7 v94_1.toInt.toNat).toInt → w_parameterPlaces_J118 Q U94)))))
def w_parameterPlaces_J43 (Q : Int32 → MS → Prop) (k17 : MS → Int32 → Int32 → Int32 → Prop) (U43 : MS) (t43_0 : Int32) (t43_1 : Int32) (v43_1 : Int32) (v43_2 : Int32) : Prop := (∀ a30 : Int32, a30 = (t43_1 + t43_0) → (d_typeAt U43 v43_1 v43_2 ∧ (∀ a35 : Int32, a35 = (v43_2 + (f_typeAt U43 v43_1 v43_2)) → k17 U43 v43_1 a35 a30)))
def w_parameterPlaces_L17 (Q : Int32 → MS → Prop) : Nat → MS → Int32 → Int32 → Int32 → Prop
  | 0, _, _, _, _ => False
  | n17 + 1, U17, v17_1, v17_2, v17_3 => (d_typeAt U17 v17_1 v17_2 ∧ (((f_typeAt U17 v17_1 v17_2).toInt ≤ 0 → (d_letter U17 v17_1 v17_2 ∧ (((f_letter U17 v17_1 v17_2).toInt = 41 → (∀ a13 : Int32, a13 = (v17_2 + Int32.ofInt 1) → (d_letter U17 v17_1 a13 ∧ (((f_letter U17 v17_1 a13).toInt = 86 → w_parameterPlaces_J94 Q U17 1 v17_1 a13 v17_3) ∧ (¬ (f_letter U17 v17_1 a13).toInt = 86 → (d_typeAt U17 v17_1 a13 ∧ w_parameterPlaces_J94 Q U17 (f_typeAt U17 v17_1 a13) v17_1 a13 v17_3)))))) ∧ (¬ (f_letter U17 v17_1 v17_2).toInt = 41 → Q (-1 : Int32) U17)))) ∧ (¬ (f_typeAt U17 v17_1 v17_2).toInt ≤ 0 → (d_letter U17 v17_1 v17_2 ∧ (((f_letter U17 v17_1 v17_2).toInt = 74 → w_parameterPlaces_J43 Q (w_parameterPlaces_L17 Q n17) U17 2 v17_3 v17_1 v17_2) ∧ (¬ (f_letter U17 v17_1 v17_2).toInt = 74 → w_parameterPlaces_J43 Q (w_parameterPlaces_L17 Q n17) U17 1 v17_3 v17_1 v17_2))))))
def w_parameterPlaces (S : MS) (x1 : Int32) (Q : Int32 → MS → Prop) : Prop := (d_letter S x1 (0 : Int32) ∧ (((f_letter S x1 (0 : Int32)).toInt = 40 → (∃ n, w_parameterPlaces_L17 Q n S x1 1 0)) ∧ (¬ (f_letter S x1 (0 : Int32)).toInt = 40 → Q (-1 : Int32) S)))
set_option maxHeartbeats 2000000 in
set_option maxRecDepth 100000 in
theorem r_parameterPlaces (l : Launch) (g : Gr) (ad : Nat → Nat) (sz : Nat) (S : MS) (x1 : Int32) (hw : wfM S) (Q : Int32 → MS → Prop) (h : w_parameterPlaces S x1 Q) : Met l yX14_parameterPlaces (wt2 yX14_parameterPlaces cX14_parameterPlaces 5 (some .int)) ({ frames := 2, cells := 0, slots := 0, locals := 44 }) (va_Pc [.ref (ad 0), .int x1] (st_R g ad sz S)) (va_Qi (fun (r : Int32) (u : MS) => Q r u ∧ wfM u ∧ shy S u) (fun (u : MS) (t : State) => qE g ad (va_A (Wd g ad S) sz) u t) (va_A (Wd g ad S) sz)) 0 0 (va_A (Wd g ad S) sz) := by
  refine Met.ofW (cc := cX14_parameterPlaces) (maxL := 5) (ret := (some .int)) (by decide) rfl ?_
  intro p e s m args below meth c s₁ B hml hv
  obtain ⟨rfl, hsz, hP, hK, hD0, hex, hE⟩ := hv
  have hx := B.exec
  have hb := B.bytes
  have hr := B.returns
  have hts0 := atoms_spec (ws := wt2 yX14_parameterPlaces cX14_parameterPlaces 5 (some .int)) B.pre
  have hts : ∀ w ∈ tb2, w.before _ s = true := fun w h => hts0 w (List.mem_cons_of_mem _ h)
  have hown : s.vm.findClass RX14 = some m.cls := findClass_of_methodNamed B.named
  subst hsz
  have hD := hD0.self (sz := s.heap.size)
  generalize hAe : va_A (Wd g ad S) s.heap.size = A at hD hE ⊢
  have hA : ∀ q : Nat, s.heap.size ≤ q → A q := fun q h => by rw [← hAe]; exact Or.inr h
  have hR : Rep g ad A s S s.heap [] := ⟨hK, hP, hD, va_S.rf, hw⟩
  clear hK hP hD hD0
  have hl := lv_entry ([.ref (ad 0), .int x1]) (n := 5) (Nat.le_of_ble_eq_true rfl)
  rw [lg_entry_eq]
  generalize (lg_sl ([.ref (ad 0), .int x1]) ++ List.replicate (5 - (lg_sl ([.ref (ad 0), .int x1])).length) Slot.unset).toArray = ls at hl ⊢
  have hl : lv_has ls 5 [(0, .ref (ad 0)), (1, .int x1)] := hl
  have hsh : shy S S := shy.rf
  unfold w_parameterPlaces at h
  refine lv_aload_n hx hb dX14_parameterPlaces_0 rfl (lv_at hl 0 rfl) ?_
  refine lv_iload_n hx hb dX14_parameterPlaces_1 rfl (lv_at hl 1 rfl) ?_
  refine lv_iconst (v := 0) hx hb dX14_parameterPlaces_2 (by decide) ?_
  obtain ⟨hv1, h⟩ := h
  have hFc := rfree hR hA
  refine va_calli (va_runV (As := [.int x1, .int 0]) (rest := []) ⟨hx, hb, hml, hown, hts⟩ (r_letter l g ad s.heap.size S x1 (0 : Int32) hR.w  hv1) (cwV 2 hts (gd2_V kx_227 kx_228 kx_229 kx_177 kx_230) rfl rfl rfl (by decide +kernel) ⟨Nat.le_of_ble_eq_true rfl, Nat.le_of_ble_eq_true rfl⟩) ⟨rblind, va_recv hR.K hR.P (ci := 13) (q0 := 0) rfl (hR.at14 hR.w.1), fun U hU hW9 => rmk hU hW9 hR hex hE hFc⟩ rfl rfl hl.1 rfl (lv_room (Nat.le_of_ble_eq_true rfl)) dX14_parameterPlaces_3 ⟨Nat.le_of_ble_eq_true rfl, Nat.le_of_ble_eq_true rfl⟩) hR.sS (fun q _ h => hFc q h) hFc (fun r2 u9 t9 H1 locs ht9 hvm9 hw9 hB9 hz9 hk9 hS => ?_)
  have hR : Rep g ad A s S H1 locs := hR.call ht9 hB9 hR.w hS hFc
  obtain rfl : r2 = (f_letter S x1 (0 : Int32)) := hw9
  clear hB9 hz9 hk9 hvm9 ht9 hS
  generalize H1 = H at hR ⊢
  refine lv_bipush (v := 40) hx hb dX14_parameterPlaces_6 (by decide) ?_
  refine lv_icmp_eq (tgt := 13) hx hb dX14_parameterPlaces_8 (by decide) (fun c4 => ?_) (fun c4 => ?_)
  · replace h := h.1 (k_eq rfl (by decide) c4)
    refine lv_iconst (v := 1) hx hb dX14_parameterPlaces_13 (by decide) ?_
    refine lv_istore_n (lv' := [(2, .int 1), (0, .ref (ad 0)), (1, .int x1)]) hx hb dX14_parameterPlaces_14 rfl hl (by decide) rfl (fun ls hl => ?_)
    refine lv_iconst (v := 0) hx hb dX14_parameterPlaces_15 (by decide) ?_
    refine lv_istore_n (lv' := [(3, .int 0), (2, .int 1), (0, .ref (ad 0)), (1, .int x1)]) hx hb dX14_parameterPlaces_16 rfl hl (by decide) rfl (fun ls hl => ?_)
    have J_17 : ∀ (n17 : Nat) (U17 : MS) (v17_1 : Int32) (v17_2 : Int32) (v17_3 : Int32) (H : Heap) (locs : List Loc) (ls : Array Slot), w_parameterPlaces_L17 Q n17 U17 v17_1 v17_2 v17_3 → shy S U17 → Rep g ad A s U17 H locs → lv_has ls 5 [(0, .ref (ad 0)), (1, .int v17_1), (2, .int v17_2), (3, .int v17_3)] → W p l e (headSpec (wt2 yX14_parameterPlaces cX14_parameterPlaces 5 (some .int)) ({ frames := 2, cells := 0, slots := 0, locals := 44 })).room s m ([.ref (ad 0), .int x1] : List Value).toArray below meth c H locs 0 0 (MQ below (va_Qi (fun (r : Int32) (u : MS) => Q r u ∧ wfM u ∧ shy S u) (fun (u : MS) (t : State) => qE g ad A u t) A) ([.ref (ad 0), .int x1] : List Value).toArray s 0 0 A) (F0 m 17 ls []) := by
      intro n17
      induction n17 with
      | zero => intro U17 v17_1 v17_2 v17_3 H locs ls h hsh hR hl; unfold w_parameterPlaces_L17 at h; exact h.elim
      | succ n17 ih_17 =>
        intro U17 v17_1 v17_2 v17_3 H locs ls h hsh hR hl
        unfold w_parameterPlaces_L17 at h
        refine lv_aload_n hx hb dX14_parameterPlaces_17 rfl (lv_at hl 0 rfl) ?_
        refine lv_iload_n hx hb dX14_parameterPlaces_18 rfl (lv_at hl 1 rfl) ?_
        refine lv_iload_n hx hb dX14_parameterPlaces_19 rfl (lv_at hl 2 rfl) ?_
        obtain ⟨hv5, h⟩ := h
        have hFc := rfree hR hA
        refine va_calli (va_runV (As := [.int v17_1, .int v17_2]) (rest := []) ⟨hx, hb, hml, hown, hts⟩ (r_typeAt l g ad H.size U17 v17_1 v17_2 hR.w  hv5) (cwV 2 hts (gd2_V kx_231 kx_232 kx_233 kx_177 kx_234) rfl rfl rfl (by decide +kernel) ⟨Nat.le_of_ble_eq_true rfl, Nat.le_of_ble_eq_true rfl⟩) ⟨rblind, va_recv hR.K hR.P (ci := 13) (q0 := 0) rfl (hR.at14 hR.w.1), fun U hU hW9 => rmk hU hW9 hR hex hE hFc⟩ rfl rfl hl.1 rfl (lv_room (Nat.le_of_ble_eq_true rfl)) dX14_parameterPlaces_20 ⟨Nat.le_of_ble_eq_true rfl, Nat.le_of_ble_eq_true rfl⟩) hR.sS (fun q _ h => hFc q h) hFc (fun r6 u9 t9 H1 locs ht9 hvm9 hw9 hB9 hz9 hk9 hS => ?_)
        have hR : Rep g ad A s U17 H1 locs := hR.call ht9 hB9 hR.w hS hFc
        obtain rfl : r6 = (f_typeAt U17 v17_1 v17_2) := hw9
        clear hB9 hz9 hk9 hvm9 ht9 hS
        generalize H1 = H at hR ⊢
        refine lv_if_le (tgt := 57) hx hb dX14_parameterPlaces_23 (by decide) (fun c8 => ?_) (fun c8 => ?_)
        · replace h := h.1 (k_le rfl (by decide) c8)
          refine lv_aload_n hx hb dX14_parameterPlaces_57 rfl (lv_at hl 0 rfl) ?_
          refine lv_iload_n hx hb dX14_parameterPlaces_58 rfl (lv_at hl 1 rfl) ?_
          refine lv_iload_n hx hb dX14_parameterPlaces_59 rfl (lv_at hl 2 rfl) ?_
          obtain ⟨hv9, h⟩ := h
          have hFc := rfree hR hA
          refine va_calli (va_runV (As := [.int v17_1, .int v17_2]) (rest := []) ⟨hx, hb, hml, hown, hts⟩ (r_letter l g ad H.size U17 v17_1 v17_2 hR.w  hv9) (cwV 2 hts (gd2_V kx_227 kx_228 kx_229 kx_177 kx_230) rfl rfl rfl (by decide +kernel) ⟨Nat.le_of_ble_eq_true rfl, Nat.le_of_ble_eq_true rfl⟩) ⟨rblind, va_recv hR.K hR.P (ci := 13) (q0 := 0) rfl (hR.at14 hR.w.1), fun U hU hW9 => rmk hU hW9 hR hex hE hFc⟩ rfl rfl hl.1 rfl (lv_room (Nat.le_of_ble_eq_true rfl)) dX14_parameterPlaces_60 ⟨Nat.le_of_ble_eq_true rfl, Nat.le_of_ble_eq_true rfl⟩) hR.sS (fun q _ h => hFc q h) hFc (fun r10 u9 t9 H1 locs ht9 hvm9 hw9 hB9 hz9 hk9 hS => ?_)
          have hR : Rep g ad A s U17 H1 locs := hR.call ht9 hB9 hR.w hS hFc
          obtain rfl : r10 = (f_letter U17 v17_1 v17_2) := hw9
          clear hB9 hz9 hk9 hvm9 ht9 hS
          generalize H1 = H at hR ⊢
          refine lv_bipush (v := 41) hx hb dX14_parameterPlaces_63 (by decide) ?_
          refine lv_icmp_eq (tgt := 70) hx hb dX14_parameterPlaces_65 (by decide) (fun c12 => ?_) (fun c12 => ?_)
          · replace h := h.1 (k_eq rfl (by decide) c12)
            obtain ⟨a13, ea13⟩ : ∃ z, z = (v17_2 + Int32.ofInt 1) := ⟨_, rfl⟩
            replace h := h a13 ea13
            refine lv_iinc (v := a13) (lv' := [(2, .int a13), (0, .ref (ad 0)), (1, .int v17_1), (3, .int v17_3)]) hx hb dX14_parameterPlaces_70 hl (k := 2) rfl ea13.symm (by decide) rfl (fun ls hl => ?_)
            refine lv_aload_n hx hb dX14_parameterPlaces_73 rfl (lv_at hl 1 rfl) ?_
            refine lv_iload_n hx hb dX14_parameterPlaces_74 rfl (lv_at hl 2 rfl) ?_
            refine lv_iload_n hx hb dX14_parameterPlaces_75 rfl (lv_at hl 0 rfl) ?_
            obtain ⟨hv14, h⟩ := h
            have hFc := rfree hR hA
            refine va_calli (va_runV (As := [.int v17_1, .int a13]) (rest := []) ⟨hx, hb, hml, hown, hts⟩ (r_letter l g ad H.size U17 v17_1 a13 hR.w  hv14) (cwV 2 hts (gd2_V kx_227 kx_228 kx_229 kx_177 kx_230) rfl rfl rfl (by decide +kernel) ⟨Nat.le_of_ble_eq_true rfl, Nat.le_of_ble_eq_true rfl⟩) ⟨rblind, va_recv hR.K hR.P (ci := 13) (q0 := 0) rfl (hR.at14 hR.w.1), fun U hU hW9 => rmk hU hW9 hR hex hE hFc⟩ rfl rfl hl.1 rfl (lv_room (Nat.le_of_ble_eq_true rfl)) dX14_parameterPlaces_76 ⟨Nat.le_of_ble_eq_true rfl, Nat.le_of_ble_eq_true rfl⟩) hR.sS (fun q _ h => hFc q h) hFc (fun r15 u9 t9 H1 locs ht9 hvm9 hw9 hB9 hz9 hk9 hS => ?_)
            have hR : Rep g ad A s U17 H1 locs := hR.call ht9 hB9 hR.w hS hFc
            obtain rfl : r15 = (f_letter U17 v17_1 a13) := hw9
            clear hB9 hz9 hk9 hvm9 ht9 hS
            generalize H1 = H at hR ⊢
            refine lv_bipush (v := 86) hx hb dX14_parameterPlaces_79 (by decide) ?_
            have J_94 : ∀ (U94 : MS) (t94_0 : Int32) (v94_1 : Int32) (v94_2 : Int32) (v94_3 : Int32) (H : Heap) (locs : List Loc) (ls : Array Slot), w_parameterPlaces_J94 Q U94 t94_0 v94_1 v94_2 v94_3 → shy S U94 → Rep g ad A s U94 H locs → lv_has ls 5 [(0, .ref (ad 0)), (1, .int v94_1), (2, .int v94_2), (3, .int v94_3)] → W p l e (headSpec (wt2 yX14_parameterPlaces cX14_parameterPlaces 5 (some .int)) ({ frames := 2, cells := 0, slots := 0, locals := 44 })).room s m ([.ref (ad 0), .int x1] : List Value).toArray below meth c H locs 0 0 (MQ below (va_Qi (fun (r : Int32) (u : MS) => Q r u ∧ wfM u ∧ shy S u) (fun (u : MS) (t : State) => qE g ad A u t) A) ([.ref (ad 0), .int x1] : List Value).toArray s 0 0 A) (F0 m 94 ls [.int t94_0]) := by
              intro U94 t94_0 v94_1 v94_2 v94_3 H locs ls h hsh hR hl
              unfold w_parameterPlaces_J94 at h
              refine lv_istore (lv' := [(4, .int t94_0), (0, .ref (ad 0)), (1, .int v94_1), (2, .int v94_2), (3, .int v94_3)]) hx hb dX14_parameterPlaces_94 hl (by decide) rfl (fun ls hl => ?_)
              refine lv_iload hx hb dX14_parameterPlaces_96 (lv_at hl 0 rfl) ?_
              have J_118 : ∀ (U118 : MS) (H : Heap) (locs : List Loc) (ls : Array Slot), w_parameterPlaces_J118 Q U118 → shy S U118 → Rep g ad A s U118 H locs → lv_has ls 5 [] → W p l e (headSpec (wt2 yX14_parameterPlaces cX14_parameterPlaces 5 (some .int)) ({ frames := 2, cells := 0, slots := 0, locals := 44 })).room s m ([.ref (ad 0), .int x1] : List Value).toArray below meth c H locs 0 0 (MQ below (va_Qi (fun (r : Int32) (u : MS) => Q r u ∧ wfM u ∧ shy S u) (fun (u : MS) (t : State) => qE g ad A u t) A) ([.ref (ad 0), .int x1] : List Value).toArray s 0 0 A) (F0 m 118 ls []) := by
                intro U118 H locs ls h hsh hR hl
                unfold w_parameterPlaces_J118 at h
                refine lv_iconst (v := (-1)) hx hb dX14_parameterPlaces_118 (by decide) ?_
                exact W.iret (v := (-1)) hx hb hr (fun t9 ht9 hW9 => ⟨⟨_, U118, rfl, ⟨h, hR.w, hsh⟩, ⟨by rw [ht9]; exact hR.P, hR.D⟩⟩, hR.sS.F ht9⟩) hR.sS.2.2 dX14_parameterPlaces_119
              refine lv_if_le (tgt := 118) hx hb dX14_parameterPlaces_98 (by decide) (fun c17 => ?_) (fun c17 => ?_)
              · replace h := h.1 (k_le rfl (by decide) c17)
                exact J_118 U94 _ _ ls h  hsh hR (lv_sub hl [] rfl)
              · replace h := h.2 (k_nle rfl (by decide) c17)
                refine lv_iload_n hx hb dX14_parameterPlaces_101 rfl (lv_at hl 3 rfl) ?_
                refine lv_iload hx hb dX14_parameterPlaces_102 (lv_at hl 0 rfl) ?_
                refine lv_iadd hx hb dX14_parameterPlaces_104 ?_
                refine lv_topi (fun z18 ez18 => ?_)
                obtain rfl : z18 = (v94_2 + t94_0) := ez18
                refine lv_aload_n hx hb dX14_parameterPlaces_105 rfl (lv_at hl 1 rfl) ?_
                refine va_get (D := rD g) (ci := 13) (v := .ref (ad 7)) (C := RX14) (T := TX14) (N := 143) hx hb hts in2X14 hown hR.K hR.P 0 (hR.at14 hR.w.1) rfl 18 (by decide) (hts _ kx_209) (fun _ h9 => h9) (congrArg (fun z => some (vf ad z)) (hR.w.2.1 _ fin_18).1) dX14_parameterPlaces_106 ?_
                refine lv_iload_n hx hb dX14_parameterPlaces_109 rfl (lv_at hl 2 rfl) ?_
                obtain ⟨hv19, h⟩ := h
                refine va_iald hx hb hR.K hR.P 7 1 (hR.atI (hR.w.2.1 _ fin_18).2.1) rfl (k_ixN (k_ix (n := 502) (x := v94_1) (a := v94_1.toInt) rfl hv19) (hR.w.2.1 _ fin_18).2.2) dX14_parameterPlaces_110 ?_
                refine lv_topi (fun z20 ez20 => ?_)
                obtain rfl : z20 = (qI U94 7 v94_1.toInt.toNat) := ez20
                refine lv_icmp_ne (tgt := 118) hx hb dX14_parameterPlaces_111 (by decide) (fun c21 => ?_) (fun c21 => ?_)
                · replace h := h.2 (k_ne rfl rfl c21)
                  exact J_118 U94 _ _ ls h  hsh hR (lv_sub hl [] rfl)
                · replace h := h.1 (k_eq rfl rfl c21)
                  refine lv_iload_n hx hb dX14_parameterPlaces_114 rfl (lv_at hl 4 rfl) ?_
                  refine lv_goto (tgt := 119) hx hb dX14_parameterPlaces_115 (by decide) ?_
                  exact W.iret (v := v94_3) hx hb hr (fun t9 ht9 hW9 => ⟨⟨_, U94, rfl, ⟨h, hR.w, hsh⟩, ⟨by rw [ht9]; exact hR.P, hR.D⟩⟩, hR.sS.F ht9⟩) hR.sS.2.2 dX14_parameterPlaces_119
            refine lv_icmp_ne (tgt := 88) hx hb dX14_parameterPlaces_81 (by decide) (fun c22 => ?_) (fun c22 => ?_)
            · replace h := h.2 (k_ne rfl (by decide) c22)
              refine lv_aload_n hx hb dX14_parameterPlaces_88 rfl (lv_at hl 1 rfl) ?_
              refine lv_iload_n hx hb dX14_parameterPlaces_89 rfl (lv_at hl 2 rfl) ?_
              refine lv_iload_n hx hb dX14_parameterPlaces_90 rfl (lv_at hl 0 rfl) ?_
              obtain ⟨hv23, h⟩ := h
              have hFc := rfree hR hA
              refine va_calli (va_runV (As := [.int v17_1, .int a13]) (rest := []) ⟨hx, hb, hml, hown, hts⟩ (r_typeAt l g ad H.size U17 v17_1 a13 hR.w  hv23) (cwV 2 hts (gd2_V kx_231 kx_232 kx_233 kx_177 kx_234) rfl rfl rfl (by decide +kernel) ⟨Nat.le_of_ble_eq_true rfl, Nat.le_of_ble_eq_true rfl⟩) ⟨rblind, va_recv hR.K hR.P (ci := 13) (q0 := 0) rfl (hR.at14 hR.w.1), fun U hU hW9 => rmk hU hW9 hR hex hE hFc⟩ rfl rfl hl.1 rfl (lv_room (Nat.le_of_ble_eq_true rfl)) dX14_parameterPlaces_91 ⟨Nat.le_of_ble_eq_true rfl, Nat.le_of_ble_eq_true rfl⟩) hR.sS (fun q _ h => hFc q h) hFc (fun r24 u9 t9 H1 locs ht9 hvm9 hw9 hB9 hz9 hk9 hS => ?_)
              have hR : Rep g ad A s U17 H1 locs := hR.call ht9 hB9 hR.w hS hFc
              obtain rfl : r24 = (f_typeAt U17 v17_1 a13) := hw9
              clear hB9 hz9 hk9 hvm9 ht9 hS
              generalize H1 = H at hR ⊢
              exact J_94 U17 (f_typeAt U17 v17_1 a13) v17_1 a13 v17_3 _ _ ls h  hsh hR (lv_sub hl [1, 2, 0, 3] rfl)
            · replace h := h.1 (k_eq rfl (by decide) c22)
              refine lv_iconst (v := 1) hx hb dX14_parameterPlaces_84 (by decide) ?_
              refine lv_goto (tgt := 94) hx hb dX14_parameterPlaces_85 (by decide) ?_
              exact J_94 U17 1 v17_1 a13 v17_3 _ _ ls h  hsh hR (lv_sub hl [1, 2, 0, 3] rfl)
          · replace h := h.2 (k_ne rfl (by decide) c12)
            refine lv_iconst (v := (-1)) hx hb dX14_parameterPlaces_68 (by decide) ?_
            exact W.iret (v := (-1)) hx hb hr (fun t9 ht9 hW9 => ⟨⟨_, U17, rfl, ⟨h, hR.w, hsh⟩, ⟨by rw [ht9]; exact hR.P, hR.D⟩⟩, hR.sS.F ht9⟩) hR.sS.2.2 dX14_parameterPlaces_69
        · replace h := h.2 (k_nle rfl (by decide) c8)
          refine lv_iload_n hx hb dX14_parameterPlaces_26 rfl (lv_at hl 3 rfl) ?_
          refine lv_aload_n hx hb dX14_parameterPlaces_27 rfl (lv_at hl 0 rfl) ?_
          refine lv_iload_n hx hb dX14_parameterPlaces_28 rfl (lv_at hl 1 rfl) ?_
          refine lv_iload_n hx hb dX14_parameterPlaces_29 rfl (lv_at hl 2 rfl) ?_
          obtain ⟨hv26, h⟩ := h
          have hFc := rfree hR hA
          refine va_calli (va_runV (As := [.int v17_1, .int v17_2]) (rest := [.int v17_3]) ⟨hx, hb, hml, hown, hts⟩ (r_letter l g ad H.size U17 v17_1 v17_2 hR.w  hv26) (cwV 2 hts (gd2_V kx_227 kx_228 kx_229 kx_177 kx_230) rfl rfl rfl (by decide +kernel) ⟨Nat.le_of_ble_eq_true rfl, Nat.le_of_ble_eq_true rfl⟩) ⟨rblind, va_recv hR.K hR.P (ci := 13) (q0 := 0) rfl (hR.at14 hR.w.1), fun U hU hW9 => rmk hU hW9 hR hex hE hFc⟩ rfl rfl hl.1 rfl (lv_room (Nat.le_of_ble_eq_true rfl)) dX14_parameterPlaces_30 ⟨Nat.le_of_ble_eq_true rfl, Nat.le_of_ble_eq_true rfl⟩) hR.sS (fun q _ h => hFc q h) hFc (fun r27 u9 t9 H1 locs ht9 hvm9 hw9 hB9 hz9 hk9 hS => ?_)
          have hR : Rep g ad A s U17 H1 locs := hR.call ht9 hB9 hR.w hS hFc
          obtain rfl : r27 = (f_letter U17 v17_1 v17_2) := hw9
          clear hB9 hz9 hk9 hvm9 ht9 hS
          generalize H1 = H at hR ⊢
          refine lv_bipush (v := 74) hx hb dX14_parameterPlaces_33 (by decide) ?_
          have J_43 : ∀ (U43 : MS) (t43_0 : Int32) (t43_1 : Int32) (v43_1 : Int32) (v43_2 : Int32) (H : Heap) (locs : List Loc) (ls : Array Slot), w_parameterPlaces_J43 Q (w_parameterPlaces_L17 Q n17) U43 t43_0 t43_1 v43_1 v43_2 → shy S U43 → Rep g ad A s U43 H locs → lv_has ls 5 [(0, .ref (ad 0)), (1, .int v43_1), (2, .int v43_2)] → W p l e (headSpec (wt2 yX14_parameterPlaces cX14_parameterPlaces 5 (some .int)) ({ frames := 2, cells := 0, slots := 0, locals := 44 })).room s m ([.ref (ad 0), .int x1] : List Value).toArray below meth c H locs 0 0 (MQ below (va_Qi (fun (r : Int32) (u : MS) => Q r u ∧ wfM u ∧ shy S u) (fun (u : MS) (t : State) => qE g ad A u t) A) ([.ref (ad 0), .int x1] : List Value).toArray s 0 0 A) (F0 m 43 ls [.int t43_0, .int t43_1]) := by
            intro U43 t43_0 t43_1 v43_1 v43_2 H locs ls h hsh hR hl
            unfold w_parameterPlaces_J43 at h
            refine lv_iadd hx hb dX14_parameterPlaces_43 ?_
            refine lv_topi (fun z29 ez29 => ?_)
            obtain rfl : z29 = (t43_1 + t43_0) := ez29
            obtain ⟨a30, ea30⟩ : ∃ z, z = (t43_1 + t43_0) := ⟨_, rfl⟩
            rw [← ea30]
            replace h := h a30 ea30
            refine lv_istore_n (lv' := [(3, .int a30), (0, .ref (ad 0)), (1, .int v43_1), (2, .int v43_2)]) hx hb dX14_parameterPlaces_44 rfl hl (by decide) rfl (fun ls hl => ?_)
            refine lv_iload_n hx hb dX14_parameterPlaces_45 rfl (lv_at hl 3 rfl) ?_
            refine lv_aload_n hx hb dX14_parameterPlaces_46 rfl (lv_at hl 1 rfl) ?_
            refine lv_iload_n hx hb dX14_parameterPlaces_47 rfl (lv_at hl 2 rfl) ?_
            refine lv_iload_n hx hb dX14_parameterPlaces_48 rfl (lv_at hl 3 rfl) ?_
            obtain ⟨hv31, h⟩ := h
            have hFc := rfree hR hA
            refine va_calli (va_runV (As := [.int v43_1, .int v43_2]) (rest := [.int v43_2]) ⟨hx, hb, hml, hown, hts⟩ (r_typeAt l g ad H.size U43 v43_1 v43_2 hR.w  hv31) (cwV 2 hts (gd2_V kx_231 kx_232 kx_233 kx_177 kx_234) rfl rfl rfl (by decide +kernel) ⟨Nat.le_of_ble_eq_true rfl, Nat.le_of_ble_eq_true rfl⟩) ⟨rblind, va_recv hR.K hR.P (ci := 13) (q0 := 0) rfl (hR.at14 hR.w.1), fun U hU hW9 => rmk hU hW9 hR hex hE hFc⟩ rfl rfl hl.1 rfl (lv_room (Nat.le_of_ble_eq_true rfl)) dX14_parameterPlaces_49 ⟨Nat.le_of_ble_eq_true rfl, Nat.le_of_ble_eq_true rfl⟩) hR.sS (fun q _ h => hFc q h) hFc (fun r32 u9 t9 H1 locs ht9 hvm9 hw9 hB9 hz9 hk9 hS => ?_)
            have hR : Rep g ad A s U43 H1 locs := hR.call ht9 hB9 hR.w hS hFc
            obtain rfl : r32 = (f_typeAt U43 v43_1 v43_2) := hw9
            clear hB9 hz9 hk9 hvm9 ht9 hS
            generalize H1 = H at hR ⊢
            refine lv_iadd hx hb dX14_parameterPlaces_52 ?_
            refine lv_topi (fun z34 ez34 => ?_)
            obtain rfl : z34 = (v43_2 + (f_typeAt U43 v43_1 v43_2)) := ez34
            obtain ⟨a35, ea35⟩ : ∃ z, z = (v43_2 + (f_typeAt U43 v43_1 v43_2)) := ⟨_, rfl⟩
            rw [← ea35]
            replace h := h a35 ea35
            refine lv_istore_n (lv' := [(2, .int a35), (3, .int a30), (0, .ref (ad 0)), (1, .int v43_1)]) hx hb dX14_parameterPlaces_53 rfl hl (by decide) rfl (fun ls hl => ?_)
            refine lv_goto (tgt := 17) hx hb dX14_parameterPlaces_54 (by decide) ?_
            exact ih_17 U43 v43_1 a35 a30 _ _ ls h  hsh hR (lv_sub hl [2, 3, 0, 1] rfl)
          refine lv_icmp_ne (tgt := 42) hx hb dX14_parameterPlaces_35 (by decide) (fun c36 => ?_) (fun c36 => ?_)
          · replace h := h.2 (k_ne rfl (by decide) c36)
            refine lv_iconst (v := 1) hx hb dX14_parameterPlaces_42 (by decide) ?_
            exact J_43 U17 1 v17_3 v17_1 v17_2 _ _ ls h  hsh hR (lv_sub hl [0, 1, 2] rfl)
          · replace h := h.1 (k_eq rfl (by decide) c36)
            refine lv_iconst (v := 2) hx hb dX14_parameterPlaces_38 (by decide) ?_
            refine lv_goto (tgt := 43) hx hb dX14_parameterPlaces_39 (by decide) ?_
            exact J_43 U17 2 v17_3 v17_1 v17_2 _ _ ls h  hsh hR (lv_sub hl [0, 1, 2] rfl)
    obtain ⟨n9, h⟩ := h
    exact J_17 n9 S x1 1 0 _ _ ls h  hsh hR (lv_sub hl [2, 3, 1, 0] rfl)
  · replace h := h.2 (k_ne rfl (by decide) c4)
    refine lv_iconst (v := (-1)) hx hb dX14_parameterPlaces_11 (by decide) ?_
    exact W.iret (v := (-1)) hx hb hr (fun t9 ht9 hW9 => ⟨⟨_, S, rfl, ⟨h, hR.w, hsh⟩, ⟨by rw [ht9]; exact hR.P, hR.D⟩⟩, hR.sS.F ht9⟩) hR.sS.2.2 dX14_parameterPlaces_12
def w_types_J165 (Q : MS → Prop) (E : MS → Prop) (k102 : MS → Int32 → Prop) (U165 : MS) (t165_0 : Int32) (v165_1 : Int32) (v165_2 : Int32) : Prop := (∃ Q14 EQ14, w_must U165 t165_0 (10 : Int32) v165_2 Q14 EQ14 ∧ (∀ S15, Q14 S15 → (∀ a17 : Int32, a17 = (v165_1 + Int32.ofInt 1) → k102 S15 a17)) ∧ (∀ u9, EQ14 u9 → E u9))
def w_types_J164 (Q : MS → Prop) (E : MS → Prop) (k102 : MS → Int32 → Prop) (U164 : MS) (v164_1 : Int32) (v164_2 : Int32) : Prop := w_types_J165 Q E k102 U164 0 v164_1 v164_2
def w_types_L102 (Q : MS → Prop) (E : MS → Prop) : Nat → MS → Int32 → Prop
  | 0, _, _ => False
  | n102 + 1, U102, v102_1 => (((qI U102 0 21).toInt ≤ v102_1.toInt → Q U102) ∧ (¬ (qI U102 0 21).toInt ≤ v102_1.toInt → (((0 : Int) ≤ v102_1.toInt ∧ v102_1.toInt < 48) ∧ (∀ a6 : Int32, a6 = ((qI U102 9 v102_1.toInt.toNat) + (4 : Int32)) → (d_two U102 a6 ∧ (∃ Q10, w_parameterPlaces U102 (f_two U102 a6) Q10 ∧ ∀ r11 S12, Q10 r11 S12 → (((qI S12 0 22).toInt ≤ v102_1.toInt → ((r11.toInt < 0 → w_types_J164 Q E (w_types_L102 Q E n102) S12 v102_1 a6) ∧ (¬ r11.toInt < 0 → ((8 < r11.toInt → w_types_J164 Q E (w_types_L102 Q E n102) S12 v102_1 a6) ∧ (¬ 8 < r11.toInt → w_types_J165 Q E (w_types_L102 Q E n102) S12 1 v102_1 a6))))) ∧ (¬ (qI S12 0 22).toInt ≤ v102_1.toInt → (d_two S12 a6 ∧ (d_isType S12 (f_two S12 a6) ∧ w_types_J165 Q E (w_types_L102 Q E n102) S12 (f_isType S12 (f_two S12 a6)) v102_1 a6))))))))))
def w_types_J94 (Q : MS → Prop) (E : MS → Prop) (k2 : MS → Int32 → Prop) (U94 : MS) (v94_1 : Int32) : Prop := (∀ a31 : Int32, a31 = (v94_1 + Int32.ofInt 1) → k2 U94 a31)
def w_types_J83 (Q : MS → Prop) (E : MS → Prop) (k2 : MS → Int32 → Prop) (U83 : MS) (t83_0 : Int32) (v83_1 : Int32) : Prop := (((0 : Int) ≤ v83_1.toInt ∧ v83_1.toInt < 502) ∧ (∃ Q43 EQ43, w_must U83 t83_0 (10 : Int32) (qI U83 5 v83_1.toInt.toNat) Q43 EQ43 ∧ (∀ S44, Q43 S44 → w_types_J94 Q E k2 S44 v83_1) ∧ (∀ u9, EQ43 u9 → E u9)))
def w_types_J48 (Q : MS → Prop) (E : MS → Prop) (k2 : MS → Int32 → Prop) (U48 : MS) (v48_1 : Int32) : Prop := (((0 : Int) ≤ v48_1.toInt ∧ v48_1.toInt < 502) ∧ (((qI U48 4 v48_1.toInt.toNat).toInt = 10 → (((0 : Int) ≤ v48_1.toInt ∧ v48_1.toInt < 502) ∧ (((0 : Int) ≤ (qI U48 7 v48_1.toInt.toNat).toInt ∧ (qI U48 7 v48_1.toInt.toNat).toInt < 502) ∧ (∃ Q37, w_parameterPlaces U48 (qI U48 7 (((qI U48 7 v48_1.toInt.toNat).toInt).toNat)) Q37 ∧ ∀ r38 S39, Q37 r38 S39 → ((r38.toInt < 0 → w_types_J83 Q E k2 S39 0 v48_1) ∧ (¬ r38.toInt < 0 → w_types_J83 Q E k2 S39 1 v48_1)))))) ∧ (¬ (qI U48 4 v48_1.toInt.toNat).toInt = 10 → w_types_J94 Q E k2 U48 v48_1)))
def w_types_L2 (Q : MS → Prop) (E : MS → Prop) : Nat → MS → Int32 → Prop
  | 0, _, _ => False
  | n2 + 1, U2, v2_1 => (((qI U2 0 14).toInt ≤ v2_1.toInt → (∃ n, w_types_L102 Q E n U2 0)) ∧ (¬ (qI U2 0 14).toInt ≤ v2_1.toInt → (((0 : Int) ≤ v2_1.toInt ∧ v2_1.toInt < 502) ∧ (((qI U2 4 v2_1.toInt.toNat).toInt = 9 → (((0 : Int) ≤ v2_1.toInt ∧ v2_1.toInt < 502) ∧ (((0 : Int) ≤ (qI U2 7 v2_1.toInt.toNat).toInt ∧ (qI U2 7 v2_1.toInt.toNat).toInt < 502) ∧ (d_isType U2 (qI U2 7 (((qI U2 7 v2_1.toInt.toNat).toInt).toNat)) ∧ (((0 : Int) ≤ v2_1.toInt ∧ v2_1.toInt < 502) ∧ (∃ Q57 EQ57, w_must U2 (f_isType U2 (qI U2 7 (((qI U2 7 v2_1.toInt.toNat).toInt).toNat))) (10 : Int32) (qI U2 5 v2_1.toInt.toNat) Q57 EQ57 ∧ (∀ S58, Q57 S58 → w_types_J48 Q E (w_types_L2 Q E n2) S58 v2_1) ∧ (∀ u9, EQ57 u9 → E u9))))))) ∧ (¬ (qI U2 4 v2_1.toInt.toNat).toInt = 9 → w_types_J48 Q E (w_types_L2 Q E n2) U2 v2_1)))))
def w_types (S : MS) (Q : MS → Prop) (E : MS → Prop) : Prop := (∃ n, w_types_L2 Q E n S 1)
set_option maxHeartbeats 2000000 in
set_option maxRecDepth 100000 in
theorem r_types (l : Launch) (g : Gr) (ad : Nat → Nat) (sz : Nat) (S : MS) (hw : wfM S) (Q : MS → Prop) (E : MS → Prop) (h : w_types S Q E) : vx_Met l yX14_types (wt2 yX14_types cX14_types 4 none) ({ frames := 3, cells := 0, slots := 0, locals := 68 }) (va_Pc [.ref (ad 0)] (st_R g ad sz S)) (va_Qv (fun (u : MS) => Q u ∧ wfM u ∧ shy S u) (fun (u : MS) (t : State) => qE g ad (va_A (Wd g ad S) sz) u t) (va_A (Wd g ad S) sz)) (vx_X (fun (u : MS) => E u ∧ wfM u ∧ shy S u) (fun (n9 : String) (u : MS) (t : State) => n9 = RJxb5711 ∧ qE g ad (va_A (Wd g ad S) sz) u t) (va_A (Wd g ad S) sz)) 0 0 (va_A (Wd g ad S) sz) := by
  refine vx_ofW (cc := cX14_types) (maxL := 4) (ret := none) (by decide) rfl ?_
  intro p e s m args below meth c s₁ B hml hnt hv
  obtain ⟨rfl, hsz, hP, hK, hD0, hex, hE⟩ := hv
  have hx := B.exec
  have hb := B.bytes
  have hr := B.returns
  have hlocks := B.notSynchronized
  have hts0 := atoms_spec (ws := wt2 yX14_types cX14_types 4 none) B.pre
  have hts : ∀ w ∈ tb2, w.before _ s = true := fun w h => hts0 w (List.mem_cons_of_mem _ h)
  have hown : s.vm.findClass RX14 = some m.cls := findClass_of_methodNamed B.named
  subst hsz
  have hD := hD0.self (sz := s.heap.size)
  generalize hAe : va_A (Wd g ad S) s.heap.size = A at hD hE ⊢
  have hA : ∀ q : Nat, s.heap.size ≤ q → A q := fun q h => by rw [← hAe]; exact Or.inr h
  have hR : Rep g ad A s S s.heap [] := ⟨hK, hP, hD, va_S.rf, hw⟩
  clear hK hP hD hD0
  have hl := lv_entry ([.ref (ad 0)]) (n := 4) (Nat.le_of_ble_eq_true rfl)
  rw [lg_entry_eq]
  generalize (lg_sl ([.ref (ad 0)]) ++ List.replicate (4 - (lg_sl ([.ref (ad 0)])).length) Slot.unset).toArray = ls at hl ⊢
  have hl : lv_has ls 4 [(0, .ref (ad 0))] := hl
  have hsh : shy S S := shy.rf
  unfold w_types at h
  refine lv_iconst (v := 1) hx hb dX14_types_0 (by decide) ?_
  refine lv_istore_n (lv' := [(1, .int 1), (0, .ref (ad 0))]) hx hb dX14_types_1 rfl hl (by decide) rfl (fun ls hl => ?_)
  have J_2 : ∀ (n2 : Nat) (U2 : MS) (v2_1 : Int32) (H : Heap) (locs : List Loc) (ls : Array Slot), w_types_L2 Q E n2 U2 v2_1 → shy S U2 → Rep g ad A s U2 H locs → lv_has ls 4 [(0, .ref (ad 0)), (1, .int v2_1)] → W p l e (headSpec (wt2 yX14_types cX14_types 4 none) ({ frames := 3, cells := 0, slots := 0, locals := 68 })).room s m ([.ref (ad 0)] : List Value).toArray below meth c H locs 0 0 (vx_MQ below (va_Qv (fun (u : MS) => Q u ∧ wfM u ∧ shy S u) (fun (u : MS) (t : State) => qE g ad A u t) A) ((vx_X (fun (u : MS) => E u ∧ wfM u ∧ shy S u) (fun (n9 : String) (u : MS) (t : State) => n9 = RJxb5711 ∧ qE g ad A u t) A)) ([.ref (ad 0)] : List Value).toArray s 0 0 A) (F0 m 2 ls []) := by
    intro n2
    induction n2 with
    | zero => intro U2 v2_1 H locs ls h hsh hR hl; unfold w_types_L2 at h; exact h.elim
    | succ n2 ih_2 =>
      intro U2 v2_1 H locs ls h hsh hR hl
      unfold w_types_L2 at h
      refine lv_iload_n hx hb dX14_types_2 rfl (lv_at hl 1 rfl) ?_
      refine lv_aload_n hx hb dX14_types_3 rfl (lv_at hl 0 rfl) ?_
      refine va_get (D := rD g) (ci := 13) (v := .int (qI U2 0 14)) (C := RX14) (T := TX14) (N := 143) hx hb hts in2X14 hown hR.K hR.P 0 (hR.at14 hR.w.1) rfl 14 (by decide) (hts _ kx_197) (fun _ h9 => h9) rfl dX14_types_4 ?_
      refine lv_icmp_ge (tgt := 100) hx hb dX14_types_7 (by decide) (fun c1 => ?_) (fun c1 => ?_)
      · replace h := h.1 (k_le rfl rfl c1)
        refine lv_iconst (v := 0) hx hb dX14_types_100 (by decide) ?_
        refine lv_istore_n (lv' := [(1, .int 0), (0, .ref (ad 0))]) hx hb dX14_types_101 rfl hl (by decide) rfl (fun ls hl => ?_)
        have J_102 : ∀ (n102 : Nat) (U102 : MS) (v102_1 : Int32) (H : Heap) (locs : List Loc) (ls : Array Slot), w_types_L102 Q E n102 U102 v102_1 → shy S U102 → Rep g ad A s U102 H locs → lv_has ls 4 [(0, .ref (ad 0)), (1, .int v102_1)] → W p l e (headSpec (wt2 yX14_types cX14_types 4 none) ({ frames := 3, cells := 0, slots := 0, locals := 68 })).room s m ([.ref (ad 0)] : List Value).toArray below meth c H locs 0 0 (vx_MQ below (va_Qv (fun (u : MS) => Q u ∧ wfM u ∧ shy S u) (fun (u : MS) (t : State) => qE g ad A u t) A) ((vx_X (fun (u : MS) => E u ∧ wfM u ∧ shy S u) (fun (n9 : String) (u : MS) (t : State) => n9 = RJxb5711 ∧ qE g ad A u t) A)) ([.ref (ad 0)] : List Value).toArray s 0 0 A) (F0 m 102 ls []) := by
          intro n102
          induction n102 with
          | zero => intro U102 v102_1 H locs ls h hsh hR hl; unfold w_types_L102 at h; exact h.elim
          | succ n102 ih_102 =>
            intro U102 v102_1 H locs ls h hsh hR hl
            unfold w_types_L102 at h
            refine lv_iload_n hx hb dX14_types_102 rfl (lv_at hl 1 rfl) ?_
            refine lv_aload_n hx hb dX14_types_103 rfl (lv_at hl 0 rfl) ?_
            refine va_get (D := rD g) (ci := 13) (v := .int (qI U102 0 21)) (C := RX14) (T := TX14) (N := 143) hx hb hts in2X14 hown hR.K hR.P 0 (hR.at14 hR.w.1) rfl 21 (by decide) (hts _ kx_205) (fun _ h9 => h9) rfl dX14_types_104 ?_
            refine lv_icmp_ge (tgt := 177) hx hb dX14_types_107 (by decide) (fun c2 => ?_) (fun c2 => ?_)
            · replace h := h.1 (k_le rfl rfl c2)
              exact vx_ret (W.vret hx hb hr (fun t9 ht9 hW9 => ⟨⟨U102, rfl, ⟨h, hR.w, hsh⟩, ⟨by rw [ht9]; exact hR.P, hR.D⟩⟩, hR.sS.F ht9⟩) hR.sS.2.2 dX14_types_177)
            · replace h := h.2 (k_nle rfl rfl c2)
              refine lv_aload_n hx hb dX14_types_110 rfl (lv_at hl 0 rfl) ?_
              refine va_get (D := rD g) (ci := 13) (v := .ref (ad 9)) (C := RX14) (T := TX14) (N := 143) hx hb hts in2X14 hown hR.K hR.P 0 (hR.at14 hR.w.1) rfl 24 (by decide) (hts _ kx_210) (fun _ h9 => h9) (congrArg (fun z => some (vf ad z)) (hR.w.2.1 _ fin_24).1) dX14_types_111 ?_
              refine lv_iload_n hx hb dX14_types_114 rfl (lv_at hl 1 rfl) ?_
              obtain ⟨hv3, h⟩ := h
              refine va_iald hx hb hR.K hR.P 9 1 (hR.atI (hR.w.2.1 _ fin_24).2.1) rfl (k_ixN (k_ix (n := 48) (x := v102_1) (a := v102_1.toInt) rfl hv3) (hR.w.2.1 _ fin_24).2.2) dX14_types_115 ?_
              refine lv_topi (fun z4 ez4 => ?_)
              obtain rfl : z4 = (qI U102 9 v102_1.toInt.toNat) := ez4
              refine lv_iconst (v := 4) hx hb dX14_types_116 (by decide) ?_
              refine lv_iadd hx hb dX14_types_117 ?_
              refine lv_topi (fun z5 ez5 => ?_)
              obtain rfl : z5 = ((qI U102 9 v102_1.toInt.toNat) + (4 : Int32)) := ez5
              obtain ⟨a6, ea6⟩ : ∃ z, z = ((qI U102 9 v102_1.toInt.toNat) + (4 : Int32)) := ⟨_, rfl⟩
              rw [← ea6]
              replace h := h a6 ea6
              refine lv_istore_n (lv' := [(2, .int a6), (0, .ref (ad 0)), (1, .int v102_1)]) hx hb dX14_types_118 rfl hl (by decide) rfl (fun ls hl => ?_)
              refine lv_aload_n hx hb dX14_types_119 rfl (lv_at hl 1 rfl) ?_
              refine lv_aload_n hx hb dX14_types_120 rfl (lv_at hl 1 rfl) ?_
              refine lv_iload_n hx hb dX14_types_121 rfl (lv_at hl 0 rfl) ?_
              obtain ⟨hv7, h⟩ := h
              have hFc := rfree hR hA
              refine va_calli (va_runV (As := [.int a6]) (rest := [.ref (ad 0)]) ⟨hx, hb, hml, hown, hts⟩ (r_two l g ad H.size U102 a6 hR.w  hv7) (cwV 1 hts (gd2_V kx_186 kx_187 kx_188 kx_177 kx_189) rfl rfl rfl (by decide +kernel) ⟨Nat.le_of_ble_eq_true rfl, Nat.le_of_ble_eq_true rfl⟩) ⟨rblind, va_recv hR.K hR.P (ci := 13) (q0 := 0) rfl (hR.at14 hR.w.1), fun U hU hW9 => rmk hU hW9 hR hex hE hFc⟩ rfl rfl hl.1 rfl (lv_room (Nat.le_of_ble_eq_true rfl)) dX14_types_122 ⟨Nat.le_of_ble_eq_true rfl, Nat.le_of_ble_eq_true rfl⟩) hR.sS (fun q _ h => hFc q h) hFc (fun r8 u9 t9 H1 locs ht9 hvm9 hw9 hB9 hz9 hk9 hS => ?_)
              have hR : Rep g ad A s U102 H1 locs := hR.call ht9 hB9 hR.w hS hFc
              obtain rfl : r8 = (f_two U102 a6) := hw9
              clear hB9 hz9 hk9 hvm9 ht9 hS
              generalize H1 = H at hR ⊢
              obtain ⟨Q10, h0, h⟩ := h
              have hFc := rfree hR hA
              refine va_calli (va_runV (As := [.int (f_two U102 a6)]) (rest := []) ⟨hx, hb, hml, hown, hts⟩ (r_parameterPlaces l g ad H.size U102 (f_two U102 a6) hR.w  Q10 h0) (cwV 1 hts (gd2_V kx_235 kx_236 kx_237 kx_177 kx_238) rfl rfl rfl (by decide +kernel) ⟨Nat.le_of_ble_eq_true rfl, Nat.le_of_ble_eq_true rfl⟩) ⟨rblind, va_recv hR.K hR.P (ci := 13) (q0 := 0) rfl (hR.at14 hR.w.1), fun U hU hW9 => rmk hU hW9 hR hex hE hFc⟩ rfl rfl hl.1 rfl (lv_room (Nat.le_of_ble_eq_true rfl)) dX14_types_125 ⟨Nat.le_of_ble_eq_true rfl, Nat.le_of_ble_eq_true rfl⟩) hR.sS (fun q _ h => hFc q h) hFc (fun r11 S12 t9 H1 locs ht9 hvm9 hw9 hB9 hz9 hk9 hS => ?_)
              obtain ⟨hq13, hw9, hs9⟩ := hw9
              have hR : Rep g ad A s S12 H1 locs := hR.call ht9 hB9 hw9 hS hFc
              have hsh := hsh.tr hs9
              replace h := h r11 S12 hq13
              clear hB9 hz9 hk9 hvm9 ht9 hw9 hs9 hS
              generalize H1 = H at hR ⊢
              refine lv_istore_n (lv' := [(3, .int r11), (2, .int a6), (0, .ref (ad 0)), (1, .int v102_1)]) hx hb dX14_types_128 rfl hl (by decide) rfl (fun ls hl => ?_)
              refine lv_aload_n hx hb dX14_types_129 rfl (lv_at hl 2 rfl) ?_
              refine lv_iload_n hx hb dX14_types_130 rfl (lv_at hl 3 rfl) ?_
              refine lv_aload_n hx hb dX14_types_131 rfl (lv_at hl 2 rfl) ?_
              refine va_get (D := rD g) (ci := 13) (v := .int (qI S12 0 22)) (C := RX14) (T := TX14) (N := 143) hx hb hts in2X14 hown hR.K hR.P 0 (hR.at14 hR.w.1) rfl 22 (by decide) (hts _ kx_239) (fun _ h9 => h9) rfl dX14_types_132 ?_
              have J_165 : ∀ (U165 : MS) (t165_0 : Int32) (v165_1 : Int32) (v165_2 : Int32) (H : Heap) (locs : List Loc) (ls : Array Slot), w_types_J165 Q E (w_types_L102 Q E n102) U165 t165_0 v165_1 v165_2 → (t165_0 = 0 ∨ t165_0 = 1) → shy S U165 → Rep g ad A s U165 H locs → lv_has ls 4 [(0, .ref (ad 0)), (1, .int v165_1), (2, .int v165_2)] → W p l e (headSpec (wt2 yX14_types cX14_types 4 none) ({ frames := 3, cells := 0, slots := 0, locals := 68 })).room s m ([.ref (ad 0)] : List Value).toArray below meth c H locs 0 0 (vx_MQ below (va_Qv (fun (u : MS) => Q u ∧ wfM u ∧ shy S u) (fun (u : MS) (t : State) => qE g ad A u t) A) ((vx_X (fun (u : MS) => E u ∧ wfM u ∧ shy S u) (fun (n9 : String) (u : MS) (t : State) => n9 = RJxb5711 ∧ qE g ad A u t) A)) ([.ref (ad 0)] : List Value).toArray s 0 0 A) (F0 m 165 ls [.int t165_0, .ref (ad 0)]) := by
                intro U165 t165_0 v165_1 v165_2 H locs ls h hz_t165_0 hsh hR hl
                unfold w_types_J165 at h
                refine lv_bipush (v := 10) hx hb dX14_types_165 (by decide) ?_
                refine lv_iload_n hx hb dX14_types_167 rfl (lv_at hl 2 rfl) ?_
                obtain ⟨Q14, EQ14, h0, h⟩ := h
                have hFc := rfree hR hA
                refine vx_callv (vx_runV (As := [.int t165_0, .int 10, .int v165_2]) (rest := []) ⟨hx, hb, hml, hown, hts⟩ (r_must l g ad H.size U165 t165_0 (10 : Int32) v165_2 hR.w hz_t165_0 Q14 EQ14 h0) (cwV 3 hts (gd2_V kx_198 kx_199 kx_200 kx_177 kx_201) rfl rfl rfl (by decide +kernel) ⟨Nat.le_of_ble_eq_true rfl, Nat.le_of_ble_eq_true rfl⟩) ⟨rblind, va_recv hR.K hR.P (ci := 13) (q0 := 0) rfl (hR.at14 hR.w.1), fun U hU hW9 => rmk hU hW9 hR hex hE hFc⟩ rfl rfl hl.1 rfl (lv_room (Nat.le_of_ble_eq_true rfl)) dX14_types_168 ⟨Nat.le_of_ble_eq_true rfl, Nat.le_of_ble_eq_true rfl⟩) hR.sS (fun q _ h => hFc q h) hFc (fun q _ h => hFc q h) (fun E9 ce9 q9 u9 t9 H1 locs ht9 hvm9 hp9 hB9 hz9 hk9 hS hce9 hcv9 hcl9 => ?_) (fun  S15 t9 H1 locs ht9 hvm9 hw9 hB9 hz9 hk9 hS => ?_)
                · obtain ⟨hp9, hwx, hsx⟩ := hp9
                  obtain ⟨rfl, hBx⟩ := hB9
                  replace h := h.2 u9 hp9
                  have hR : Rep g ad A s u9 H1 locs := hR.call ht9 hBx hwx hS hFc
                  have hsh := hsh.tr hsx
                  exact vx_out (E := RJxb5711) (q := q9) (fun x h9 => (hnt x h9).elim) hlocks hce9 hcv9 hcl9 (fun t9 ht9 ha9 => ⟨u9, ⟨h, hR.w, hsh⟩, ⟨rfl, by rw [ht9]; exact hR.P, hR.D⟩, hR.sS.F ht9⟩) hR.sS.2.2 (Nat.le_of_ble_eq_true rfl) (Nat.le_of_ble_eq_true rfl)
                · obtain ⟨hq16, hw9, hs9⟩ := hw9
                  have hR : Rep g ad A s S15 H1 locs := hR.call ht9 hB9 hw9 hS hFc
                  have hsh := hsh.tr hs9
                  replace h := h.1  S15 hq16
                  clear hB9 hz9 hk9 hvm9 ht9 hw9 hs9 hS
                  generalize H1 = H at hR ⊢
                  obtain ⟨a17, ea17⟩ : ∃ z, z = (v165_1 + Int32.ofInt 1) := ⟨_, rfl⟩
                  replace h := h a17 ea17
                  refine lv_iinc (v := a17) (lv' := [(1, .int a17), (0, .ref (ad 0)), (2, .int v165_2)]) hx hb dX14_types_171 hl (k := 1) rfl ea17.symm (by decide) rfl (fun ls hl => ?_)
                  refine lv_goto (tgt := 102) hx hb dX14_types_174 (by decide) ?_
                  exact ih_102 S15 a17 _ _ ls h  hsh hR (lv_sub hl [1, 0] rfl)
              refine lv_icmp_ge (tgt := 150) hx hb dX14_types_135 (by decide) (fun c18 => ?_) (fun c18 => ?_)
              · replace h := h.1 (k_le rfl rfl c18)
                refine lv_iload_n hx hb dX14_types_150 rfl (lv_at hl 0 rfl) ?_
                have J_164 : ∀ (U164 : MS) (v164_1 : Int32) (v164_2 : Int32) (H : Heap) (locs : List Loc) (ls : Array Slot), w_types_J164 Q E (w_types_L102 Q E n102) U164 v164_1 v164_2 → shy S U164 → Rep g ad A s U164 H locs → lv_has ls 4 [(0, .ref (ad 0)), (1, .int v164_1), (2, .int v164_2)] → W p l e (headSpec (wt2 yX14_types cX14_types 4 none) ({ frames := 3, cells := 0, slots := 0, locals := 68 })).room s m ([.ref (ad 0)] : List Value).toArray below meth c H locs 0 0 (vx_MQ below (va_Qv (fun (u : MS) => Q u ∧ wfM u ∧ shy S u) (fun (u : MS) (t : State) => qE g ad A u t) A) ((vx_X (fun (u : MS) => E u ∧ wfM u ∧ shy S u) (fun (n9 : String) (u : MS) (t : State) => n9 = RJxb5711 ∧ qE g ad A u t) A)) ([.ref (ad 0)] : List Value).toArray s 0 0 A) (F0 m 164 ls [.ref (ad 0)]) := by
                  intro U164 v164_1 v164_2 H locs ls h hsh hR hl
                  unfold w_types_J164 at h
                  refine lv_iconst (v := 0) hx hb dX14_types_164 (by decide) ?_
                  exact J_165 U164 0 v164_1 v164_2 _ _ ls h (Or.inl rfl) hsh hR (lv_sub hl [0, 1, 2] rfl)
                refine lv_if_lt (tgt := 164) hx hb dX14_types_151 (by decide) (fun c19 => ?_) (fun c19 => ?_)
                · replace h := h.1 (k_lt rfl (by decide) c19)
                  exact J_164 S12 v102_1 a6 _ _ ls h  hsh hR (lv_sub hl [2, 3, 1] rfl)
                · replace h := h.2 (k_nlt rfl (by decide) c19)
                  refine lv_iload_n hx hb dX14_types_154 rfl (lv_at hl 0 rfl) ?_
                  refine lv_bipush (v := 8) hx hb dX14_types_155 (by decide) ?_
                  refine lv_icmp_gt (tgt := 164) hx hb dX14_types_157 (by decide) (fun c20 => ?_) (fun c20 => ?_)
                  · replace h := h.1 (k_lt (by decide) rfl c20)
                    exact J_164 S12 v102_1 a6 _ _ ls h  hsh hR (lv_sub hl [2, 3, 1] rfl)
                  · replace h := h.2 (k_nlt (by decide) rfl c20)
                    refine lv_iconst (v := 1) hx hb dX14_types_160 (by decide) ?_
                    refine lv_goto (tgt := 165) hx hb dX14_types_161 (by decide) ?_
                    exact J_165 S12 1 v102_1 a6 _ _ ls h (Or.inr rfl) hsh hR (lv_sub hl [2, 3, 1] rfl)
              · replace h := h.2 (k_nle rfl rfl c18)
                refine lv_aload_n hx hb dX14_types_138 rfl (lv_at hl 2 rfl) ?_
                refine lv_aload_n hx hb dX14_types_139 rfl (lv_at hl 2 rfl) ?_
                refine lv_iload_n hx hb dX14_types_140 rfl (lv_at hl 1 rfl) ?_
                obtain ⟨hv21, h⟩ := h
                have hFc := rfree hR hA
                refine va_calli (va_runV (As := [.int a6]) (rest := [.ref (ad 0), .ref (ad 0)]) ⟨hx, hb, hml, hown, hts⟩ (r_two l g ad H.size S12 a6 hR.w  hv21) (cwV 1 hts (gd2_V kx_186 kx_187 kx_188 kx_177 kx_189) rfl rfl rfl (by decide +kernel) ⟨Nat.le_of_ble_eq_true rfl, Nat.le_of_ble_eq_true rfl⟩) ⟨rblind, va_recv hR.K hR.P (ci := 13) (q0 := 0) rfl (hR.at14 hR.w.1), fun U hU hW9 => rmk hU hW9 hR hex hE hFc⟩ rfl rfl hl.1 rfl (lv_room (Nat.le_of_ble_eq_true rfl)) dX14_types_141 ⟨Nat.le_of_ble_eq_true rfl, Nat.le_of_ble_eq_true rfl⟩) hR.sS (fun q _ h => hFc q h) hFc (fun r22 u9 t9 H1 locs ht9 hvm9 hw9 hB9 hz9 hk9 hS => ?_)
                have hR : Rep g ad A s S12 H1 locs := hR.call ht9 hB9 hR.w hS hFc
                obtain rfl : r22 = (f_two S12 a6) := hw9
                clear hB9 hz9 hk9 hvm9 ht9 hS
                generalize H1 = H at hR ⊢
                obtain ⟨hv24, h⟩ := h
                have hFc := rfree hR hA
                refine va_calli (va_runV (As := [.int (f_two S12 a6)]) (rest := [.ref (ad 0)]) ⟨hx, hb, hml, hown, hts⟩ (r_isType l g ad H.size S12 (f_two S12 a6) hR.w  hv24) (cwV 1 hts (gd2_V kx_240 kx_241 kx_242 kx_177 kx_243) rfl rfl rfl (by decide +kernel) ⟨Nat.le_of_ble_eq_true rfl, Nat.le_of_ble_eq_true rfl⟩) ⟨rblind, va_recv hR.K hR.P (ci := 13) (q0 := 0) rfl (hR.at14 hR.w.1), fun U hU hW9 => rmk hU hW9 hR hex hE hFc⟩ rfl rfl hl.1 rfl (lv_room (Nat.le_of_ble_eq_true rfl)) dX14_types_144 ⟨Nat.le_of_ble_eq_true rfl, Nat.le_of_ble_eq_true rfl⟩) hR.sS (fun q _ h => hFc q h) hFc (fun r25 u9 t9 H1 locs ht9 hvm9 hw9 hB9 hz9 hk9 hS => ?_)
                have hR : Rep g ad A s S12 H1 locs := hR.call ht9 hB9 hR.w hS hFc
                obtain ⟨rfl, hz_r25⟩ := hw9
                clear hB9 hz9 hk9 hvm9 ht9 hS
                generalize H1 = H at hR ⊢
                refine lv_goto (tgt := 165) hx hb dX14_types_147 (by decide) ?_
                exact J_165 S12 (f_isType S12 (f_two S12 a6)) v102_1 a6 _ _ ls h hz_r25 hsh hR (lv_sub hl [2, 3, 1] rfl)
        obtain ⟨n9, h⟩ := h
        exact J_102 n9 U2 0 _ _ ls h  hsh hR (lv_sub hl [1, 0] rfl)
      · replace h := h.2 (k_nle rfl rfl c1)
        refine lv_aload_n hx hb dX14_types_10 rfl (lv_at hl 0 rfl) ?_
        refine va_get (D := rD g) (ci := 13) (v := .ref (ad 4)) (C := RX14) (T := TX14) (N := 143) hx hb hts in2X14 hown hR.K hR.P 0 (hR.at14 hR.w.1) rfl 15 (by decide) (hts _ kx_202) (fun _ h9 => h9) (congrArg (fun z => some (vf ad z)) (hR.w.2.1 _ fin_15).1) dX14_types_11 ?_
        refine lv_iload_n hx hb dX14_types_14 rfl (lv_at hl 1 rfl) ?_
        obtain ⟨hv27, h⟩ := h
        refine va_iald hx hb hR.K hR.P 4 1 (hR.atI (hR.w.2.1 _ fin_15).2.1) rfl (k_ixN (k_ix (n := 502) (x := v2_1) (a := v2_1.toInt) rfl hv27) (hR.w.2.1 _ fin_15).2.2) dX14_types_15 ?_
        refine lv_topi (fun z28 ez28 => ?_)
        obtain rfl : z28 = (qI U2 4 v2_1.toInt.toNat) := ez28
        refine lv_bipush (v := 9) hx hb dX14_types_16 (by decide) ?_
        have J_48 : ∀ (U48 : MS) (v48_1 : Int32) (H : Heap) (locs : List Loc) (ls : Array Slot), w_types_J48 Q E (w_types_L2 Q E n2) U48 v48_1 → shy S U48 → Rep g ad A s U48 H locs → lv_has ls 4 [(0, .ref (ad 0)), (1, .int v48_1)] → W p l e (headSpec (wt2 yX14_types cX14_types 4 none) ({ frames := 3, cells := 0, slots := 0, locals := 68 })).room s m ([.ref (ad 0)] : List Value).toArray below meth c H locs 0 0 (vx_MQ below (va_Qv (fun (u : MS) => Q u ∧ wfM u ∧ shy S u) (fun (u : MS) (t : State) => qE g ad A u t) A) ((vx_X (fun (u : MS) => E u ∧ wfM u ∧ shy S u) (fun (n9 : String) (u : MS) (t : State) => n9 = RJxb5711 ∧ qE g ad A u t) A)) ([.ref (ad 0)] : List Value).toArray s 0 0 A) (F0 m 48 ls []) := by
          intro U48 v48_1 H locs ls h hsh hR hl
          unfold w_types_J48 at h
          refine lv_aload_n hx hb dX14_types_48 rfl (lv_at hl 0 rfl) ?_
          refine va_get (D := rD g) (ci := 13) (v := .ref (ad 4)) (C := RX14) (T := TX14) (N := 143) hx hb hts in2X14 hown hR.K hR.P 0 (hR.at14 hR.w.1) rfl 15 (by decide) (hts _ kx_202) (fun _ h9 => h9) (congrArg (fun z => some (vf ad z)) (hR.w.2.1 _ fin_15).1) dX14_types_49 ?_
          refine lv_iload_n hx hb dX14_types_52 rfl (lv_at hl 1 rfl) ?_
          obtain ⟨hv29, h⟩ := h
          refine va_iald hx hb hR.K hR.P 4 1 (hR.atI (hR.w.2.1 _ fin_15).2.1) rfl (k_ixN (k_ix (n := 502) (x := v48_1) (a := v48_1.toInt) rfl hv29) (hR.w.2.1 _ fin_15).2.2) dX14_types_53 ?_
          refine lv_topi (fun z30 ez30 => ?_)
          obtain rfl : z30 = (qI U48 4 v48_1.toInt.toNat) := ez30
          refine lv_bipush (v := 10) hx hb dX14_types_54 (by decide) ?_
          have J_94 : ∀ (U94 : MS) (v94_1 : Int32) (H : Heap) (locs : List Loc) (ls : Array Slot), w_types_J94 Q E (w_types_L2 Q E n2) U94 v94_1 → shy S U94 → Rep g ad A s U94 H locs → lv_has ls 4 [(0, .ref (ad 0)), (1, .int v94_1)] → W p l e (headSpec (wt2 yX14_types cX14_types 4 none) ({ frames := 3, cells := 0, slots := 0, locals := 68 })).room s m ([.ref (ad 0)] : List Value).toArray below meth c H locs 0 0 (vx_MQ below (va_Qv (fun (u : MS) => Q u ∧ wfM u ∧ shy S u) (fun (u : MS) (t : State) => qE g ad A u t) A) ((vx_X (fun (u : MS) => E u ∧ wfM u ∧ shy S u) (fun (n9 : String) (u : MS) (t : State) => n9 = RJxb5711 ∧ qE g ad A u t) A)) ([.ref (ad 0)] : List Value).toArray s 0 0 A) (F0 m 94 ls []) := by
            intro U94 v94_1 H locs ls h hsh hR hl
            unfold w_types_J94 at h
            obtain ⟨a31, ea31⟩ : ∃ z, z = (v94_1 + Int32.ofInt 1) := ⟨_, rfl⟩
            replace h := h a31 ea31
            refine lv_iinc (v := a31) (lv' := [(1, .int a31), (0, .ref (ad 0))]) hx hb dX14_types_94 hl (k := 1) rfl ea31.symm (by decide) rfl (fun ls hl => ?_)
            refine lv_goto (tgt := 2) hx hb dX14_types_97 (by decide) ?_
            exact ih_2 U94 a31 _ _ ls h  hsh hR (lv_sub hl [1, 0] rfl)
          refine lv_icmp_ne (tgt := 94) hx hb dX14_types_56 (by decide) (fun c32 => ?_) (fun c32 => ?_)
          · replace h := h.2 (k_ne rfl (by decide) c32)
            exact J_94 U48 v48_1 _ _ ls h  hsh hR (lv_sub hl [0, 1] rfl)
          · replace h := h.1 (k_eq rfl (by decide) c32)
            refine lv_aload_n hx hb dX14_types_59 rfl (lv_at hl 0 rfl) ?_
            refine lv_aload_n hx hb dX14_types_60 rfl (lv_at hl 0 rfl) ?_
            refine lv_aload_n hx hb dX14_types_61 rfl (lv_at hl 0 rfl) ?_
            refine va_get (D := rD g) (ci := 13) (v := .ref (ad 7)) (C := RX14) (T := TX14) (N := 143) hx hb hts in2X14 hown hR.K hR.P 0 (hR.at14 hR.w.1) rfl 18 (by decide) (hts _ kx_209) (fun _ h9 => h9) (congrArg (fun z => some (vf ad z)) (hR.w.2.1 _ fin_18).1) dX14_types_62 ?_
            refine lv_aload_n hx hb dX14_types_65 rfl (lv_at hl 0 rfl) ?_
            refine va_get (D := rD g) (ci := 13) (v := .ref (ad 7)) (C := RX14) (T := TX14) (N := 143) hx hb hts in2X14 hown hR.K hR.P 0 (hR.at14 hR.w.1) rfl 18 (by decide) (hts _ kx_209) (fun _ h9 => h9) (congrArg (fun z => some (vf ad z)) (hR.w.2.1 _ fin_18).1) dX14_types_66 ?_
            refine lv_iload_n hx hb dX14_types_69 rfl (lv_at hl 1 rfl) ?_
            obtain ⟨hv33, h⟩ := h
            refine va_iald hx hb hR.K hR.P 7 1 (hR.atI (hR.w.2.1 _ fin_18).2.1) rfl (k_ixN (k_ix (n := 502) (x := v48_1) (a := v48_1.toInt) rfl hv33) (hR.w.2.1 _ fin_18).2.2) dX14_types_70 ?_
            refine lv_topi (fun z34 ez34 => ?_)
            obtain rfl : z34 = (qI U48 7 v48_1.toInt.toNat) := ez34
            obtain ⟨hv35, h⟩ := h
            refine va_iald hx hb hR.K hR.P 7 1 (hR.atI (hR.w.2.1 _ fin_18).2.1) rfl (k_ixN (k_ix (n := 502) (x := (qI U48 7 v48_1.toInt.toNat)) (a := (qI U48 7 v48_1.toInt.toNat).toInt) rfl hv35) (hR.w.2.1 _ fin_18).2.2) dX14_types_71 ?_
            refine lv_topi (fun z36 ez36 => ?_)
            obtain rfl : z36 = (qI U48 7 (((qI U48 7 v48_1.toInt.toNat).toInt).toNat)) := ez36
            obtain ⟨Q37, h0, h⟩ := h
            have hFc := rfree hR hA
            refine va_calli (va_runV (As := [.int (qI U48 7 (((qI U48 7 v48_1.toInt.toNat).toInt).toNat))]) (rest := [.ref (ad 0)]) ⟨hx, hb, hml, hown, hts⟩ (r_parameterPlaces l g ad H.size U48 (qI U48 7 (((qI U48 7 v48_1.toInt.toNat).toInt).toNat)) hR.w  Q37 h0) (cwV 1 hts (gd2_V kx_235 kx_236 kx_237 kx_177 kx_238) rfl rfl rfl (by decide +kernel) ⟨Nat.le_of_ble_eq_true rfl, Nat.le_of_ble_eq_true rfl⟩) ⟨rblind, va_recv hR.K hR.P (ci := 13) (q0 := 0) rfl (hR.at14 hR.w.1), fun U hU hW9 => rmk hU hW9 hR hex hE hFc⟩ rfl rfl hl.1 rfl (lv_room (Nat.le_of_ble_eq_true rfl)) dX14_types_72 ⟨Nat.le_of_ble_eq_true rfl, Nat.le_of_ble_eq_true rfl⟩) hR.sS (fun q _ h => hFc q h) hFc (fun r38 S39 t9 H1 locs ht9 hvm9 hw9 hB9 hz9 hk9 hS => ?_)
            obtain ⟨hq40, hw9, hs9⟩ := hw9
            have hR : Rep g ad A s S39 H1 locs := hR.call ht9 hB9 hw9 hS hFc
            have hsh := hsh.tr hs9
            replace h := h r38 S39 hq40
            clear hB9 hz9 hk9 hvm9 ht9 hw9 hs9 hS
            generalize H1 = H at hR ⊢
            have J_83 : ∀ (U83 : MS) (t83_0 : Int32) (v83_1 : Int32) (H : Heap) (locs : List Loc) (ls : Array Slot), w_types_J83 Q E (w_types_L2 Q E n2) U83 t83_0 v83_1 → (t83_0 = 0 ∨ t83_0 = 1) → shy S U83 → Rep g ad A s U83 H locs → lv_has ls 4 [(0, .ref (ad 0)), (1, .int v83_1)] → W p l e (headSpec (wt2 yX14_types cX14_types 4 none) ({ frames := 3, cells := 0, slots := 0, locals := 68 })).room s m ([.ref (ad 0)] : List Value).toArray below meth c H locs 0 0 (vx_MQ below (va_Qv (fun (u : MS) => Q u ∧ wfM u ∧ shy S u) (fun (u : MS) (t : State) => qE g ad A u t) A) ((vx_X (fun (u : MS) => E u ∧ wfM u ∧ shy S u) (fun (n9 : String) (u : MS) (t : State) => n9 = RJxb5711 ∧ qE g ad A u t) A)) ([.ref (ad 0)] : List Value).toArray s 0 0 A) (F0 m 83 ls [.int t83_0, .ref (ad 0)]) := by
              intro U83 t83_0 v83_1 H locs ls h hz_t83_0 hsh hR hl
              unfold w_types_J83 at h
              refine lv_bipush (v := 10) hx hb dX14_types_83 (by decide) ?_
              refine lv_aload_n hx hb dX14_types_85 rfl (lv_at hl 0 rfl) ?_
              refine va_get (D := rD g) (ci := 13) (v := .ref (ad 5)) (C := RX14) (T := TX14) (N := 143) hx hb hts in2X14 hown hR.K hR.P 0 (hR.at14 hR.w.1) rfl 16 (by decide) (hts _ kx_207) (fun _ h9 => h9) (congrArg (fun z => some (vf ad z)) (hR.w.2.1 _ fin_16).1) dX14_types_86 ?_
              refine lv_iload_n hx hb dX14_types_89 rfl (lv_at hl 1 rfl) ?_
              obtain ⟨hv41, h⟩ := h
              refine va_iald hx hb hR.K hR.P 5 1 (hR.atI (hR.w.2.1 _ fin_16).2.1) rfl (k_ixN (k_ix (n := 502) (x := v83_1) (a := v83_1.toInt) rfl hv41) (hR.w.2.1 _ fin_16).2.2) dX14_types_90 ?_
              refine lv_topi (fun z42 ez42 => ?_)
              obtain rfl : z42 = (qI U83 5 v83_1.toInt.toNat) := ez42
              obtain ⟨Q43, EQ43, h0, h⟩ := h
              have hFc := rfree hR hA
              refine vx_callv (vx_runV (As := [.int t83_0, .int 10, .int (qI U83 5 v83_1.toInt.toNat)]) (rest := []) ⟨hx, hb, hml, hown, hts⟩ (r_must l g ad H.size U83 t83_0 (10 : Int32) (qI U83 5 v83_1.toInt.toNat) hR.w hz_t83_0 Q43 EQ43 h0) (cwV 3 hts (gd2_V kx_198 kx_199 kx_200 kx_177 kx_201) rfl rfl rfl (by decide +kernel) ⟨Nat.le_of_ble_eq_true rfl, Nat.le_of_ble_eq_true rfl⟩) ⟨rblind, va_recv hR.K hR.P (ci := 13) (q0 := 0) rfl (hR.at14 hR.w.1), fun U hU hW9 => rmk hU hW9 hR hex hE hFc⟩ rfl rfl hl.1 rfl (lv_room (Nat.le_of_ble_eq_true rfl)) dX14_types_91 ⟨Nat.le_of_ble_eq_true rfl, Nat.le_of_ble_eq_true rfl⟩) hR.sS (fun q _ h => hFc q h) hFc (fun q _ h => hFc q h) (fun E9 ce9 q9 u9 t9 H1 locs ht9 hvm9 hp9 hB9 hz9 hk9 hS hce9 hcv9 hcl9 => ?_) (fun  S44 t9 H1 locs ht9 hvm9 hw9 hB9 hz9 hk9 hS => ?_)
              · obtain ⟨hp9, hwx, hsx⟩ := hp9
                obtain ⟨rfl, hBx⟩ := hB9
                replace h := h.2 u9 hp9
                have hR : Rep g ad A s u9 H1 locs := hR.call ht9 hBx hwx hS hFc
                have hsh := hsh.tr hsx
                exact vx_out (E := RJxb5711) (q := q9) (fun x h9 => (hnt x h9).elim) hlocks hce9 hcv9 hcl9 (fun t9 ht9 ha9 => ⟨u9, ⟨h, hR.w, hsh⟩, ⟨rfl, by rw [ht9]; exact hR.P, hR.D⟩, hR.sS.F ht9⟩) hR.sS.2.2 (Nat.le_of_ble_eq_true rfl) (Nat.le_of_ble_eq_true rfl)
              · obtain ⟨hq45, hw9, hs9⟩ := hw9
                have hR : Rep g ad A s S44 H1 locs := hR.call ht9 hB9 hw9 hS hFc
                have hsh := hsh.tr hs9
                replace h := h.1  S44 hq45
                clear hB9 hz9 hk9 hvm9 ht9 hw9 hs9 hS
                generalize H1 = H at hR ⊢
                exact J_94 S44 v83_1 _ _ ls h  hsh hR (lv_sub hl [0, 1] rfl)
            refine lv_if_lt (tgt := 82) hx hb dX14_types_75 (by decide) (fun c46 => ?_) (fun c46 => ?_)
            · replace h := h.1 (k_lt rfl (by decide) c46)
              refine lv_iconst (v := 0) hx hb dX14_types_82 (by decide) ?_
              exact J_83 S39 0 v48_1 _ _ ls h (Or.inl rfl) hsh hR (lv_sub hl [0, 1] rfl)
            · replace h := h.2 (k_nlt rfl (by decide) c46)
              refine lv_iconst (v := 1) hx hb dX14_types_78 (by decide) ?_
              refine lv_goto (tgt := 83) hx hb dX14_types_79 (by decide) ?_
              exact J_83 S39 1 v48_1 _ _ ls h (Or.inr rfl) hsh hR (lv_sub hl [0, 1] rfl)
        refine lv_icmp_ne (tgt := 48) hx hb dX14_types_18 (by decide) (fun c47 => ?_) (fun c47 => ?_)
        · replace h := h.2 (k_ne rfl (by decide) c47)
          exact J_48 U2 v2_1 _ _ ls h  hsh hR (lv_sub hl [0, 1] rfl)
        · replace h := h.1 (k_eq rfl (by decide) c47)
          refine lv_aload_n hx hb dX14_types_21 rfl (lv_at hl 0 rfl) ?_
          refine lv_aload_n hx hb dX14_types_22 rfl (lv_at hl 0 rfl) ?_
          refine lv_aload_n hx hb dX14_types_23 rfl (lv_at hl 0 rfl) ?_
          refine va_get (D := rD g) (ci := 13) (v := .ref (ad 7)) (C := RX14) (T := TX14) (N := 143) hx hb hts in2X14 hown hR.K hR.P 0 (hR.at14 hR.w.1) rfl 18 (by decide) (hts _ kx_209) (fun _ h9 => h9) (congrArg (fun z => some (vf ad z)) (hR.w.2.1 _ fin_18).1) dX14_types_24 ?_
          refine lv_aload_n hx hb dX14_types_27 rfl (lv_at hl 0 rfl) ?_
          refine va_get (D := rD g) (ci := 13) (v := .ref (ad 7)) (C := RX14) (T := TX14) (N := 143) hx hb hts in2X14 hown hR.K hR.P 0 (hR.at14 hR.w.1) rfl 18 (by decide) (hts _ kx_209) (fun _ h9 => h9) (congrArg (fun z => some (vf ad z)) (hR.w.2.1 _ fin_18).1) dX14_types_28 ?_
          refine lv_iload_n hx hb dX14_types_31 rfl (lv_at hl 1 rfl) ?_
          obtain ⟨hv48, h⟩ := h
          refine va_iald hx hb hR.K hR.P 7 1 (hR.atI (hR.w.2.1 _ fin_18).2.1) rfl (k_ixN (k_ix (n := 502) (x := v2_1) (a := v2_1.toInt) rfl hv48) (hR.w.2.1 _ fin_18).2.2) dX14_types_32 ?_
          refine lv_topi (fun z49 ez49 => ?_)
          obtain rfl : z49 = (qI U2 7 v2_1.toInt.toNat) := ez49
          obtain ⟨hv50, h⟩ := h
          refine va_iald hx hb hR.K hR.P 7 1 (hR.atI (hR.w.2.1 _ fin_18).2.1) rfl (k_ixN (k_ix (n := 502) (x := (qI U2 7 v2_1.toInt.toNat)) (a := (qI U2 7 v2_1.toInt.toNat).toInt) rfl hv50) (hR.w.2.1 _ fin_18).2.2) dX14_types_33 ?_
          refine lv_topi (fun z51 ez51 => ?_)
          obtain rfl : z51 = (qI U2 7 (((qI U2 7 v2_1.toInt.toNat).toInt).toNat)) := ez51
          obtain ⟨hv52, h⟩ := h
          have hFc := rfree hR hA
          refine va_calli (va_runV (As := [.int (qI U2 7 (((qI U2 7 v2_1.toInt.toNat).toInt).toNat))]) (rest := [.ref (ad 0)]) ⟨hx, hb, hml, hown, hts⟩ (r_isType l g ad H.size U2 (qI U2 7 (((qI U2 7 v2_1.toInt.toNat).toInt).toNat)) hR.w  hv52) (cwV 1 hts (gd2_V kx_240 kx_241 kx_242 kx_177 kx_243) rfl rfl rfl (by decide +kernel) ⟨Nat.le_of_ble_eq_true rfl, Nat.le_of_ble_eq_true rfl⟩) ⟨rblind, va_recv hR.K hR.P (ci := 13) (q0 := 0) rfl (hR.at14 hR.w.1), fun U hU hW9 => rmk hU hW9 hR hex hE hFc⟩ rfl rfl hl.1 rfl (lv_room (Nat.le_of_ble_eq_true rfl)) dX14_types_34 ⟨Nat.le_of_ble_eq_true rfl, Nat.le_of_ble_eq_true rfl⟩) hR.sS (fun q _ h => hFc q h) hFc (fun r53 u9 t9 H1 locs ht9 hvm9 hw9 hB9 hz9 hk9 hS => ?_)
          have hR : Rep g ad A s U2 H1 locs := hR.call ht9 hB9 hR.w hS hFc
          obtain ⟨rfl, hz_r53⟩ := hw9
          clear hB9 hz9 hk9 hvm9 ht9 hS
          generalize H1 = H at hR ⊢
          refine lv_bipush (v := 10) hx hb dX14_types_37 (by decide) ?_
          refine lv_aload_n hx hb dX14_types_39 rfl (lv_at hl 0 rfl) ?_
          refine va_get (D := rD g) (ci := 13) (v := .ref (ad 5)) (C := RX14) (T := TX14) (N := 143) hx hb hts in2X14 hown hR.K hR.P 0 (hR.at14 hR.w.1) rfl 16 (by decide) (hts _ kx_207) (fun _ h9 => h9) (congrArg (fun z => some (vf ad z)) (hR.w.2.1 _ fin_16).1) dX14_types_40 ?_
          refine lv_iload_n hx hb dX14_types_43 rfl (lv_at hl 1 rfl) ?_
          obtain ⟨hv55, h⟩ := h
          refine va_iald hx hb hR.K hR.P 5 1 (hR.atI (hR.w.2.1 _ fin_16).2.1) rfl (k_ixN (k_ix (n := 502) (x := v2_1) (a := v2_1.toInt) rfl hv55) (hR.w.2.1 _ fin_16).2.2) dX14_types_44 ?_
          refine lv_topi (fun z56 ez56 => ?_)
          obtain rfl : z56 = (qI U2 5 v2_1.toInt.toNat) := ez56
          obtain ⟨Q57, EQ57, h0, h⟩ := h
          have hFc := rfree hR hA
          refine vx_callv (vx_runV (As := [.int (f_isType U2 (qI U2 7 (((qI U2 7 v2_1.toInt.toNat).toInt).toNat))), .int 10, .int (qI U2 5 v2_1.toInt.toNat)]) (rest := []) ⟨hx, hb, hml, hown, hts⟩ (r_must l g ad H.size U2 (f_isType U2 (qI U2 7 (((qI U2 7 v2_1.toInt.toNat).toInt).toNat))) (10 : Int32) (qI U2 5 v2_1.toInt.toNat) hR.w hz_r53 Q57 EQ57 h0) (cwV 3 hts (gd2_V kx_198 kx_199 kx_200 kx_177 kx_201) rfl rfl rfl (by decide +kernel) ⟨Nat.le_of_ble_eq_true rfl, Nat.le_of_ble_eq_true rfl⟩) ⟨rblind, va_recv hR.K hR.P (ci := 13) (q0 := 0) rfl (hR.at14 hR.w.1), fun U hU hW9 => rmk hU hW9 hR hex hE hFc⟩ rfl rfl hl.1 rfl (lv_room (Nat.le_of_ble_eq_true rfl)) dX14_types_45 ⟨Nat.le_of_ble_eq_true rfl, Nat.le_of_ble_eq_true rfl⟩) hR.sS (fun q _ h => hFc q h) hFc (fun q _ h => hFc q h) (fun E9 ce9 q9 u9 t9 H1 locs ht9 hvm9 hp9 hB9 hz9 hk9 hS hce9 hcv9 hcl9 => ?_) (fun  S58 t9 H1 locs ht9 hvm9 hw9 hB9 hz9 hk9 hS => ?_)
          · obtain ⟨hp9, hwx, hsx⟩ := hp9
            obtain ⟨rfl, hBx⟩ := hB9
            replace h := h.2 u9 hp9
            have hR : Rep g ad A s u9 H1 locs := hR.call ht9 hBx hwx hS hFc
            have hsh := hsh.tr hsx
            exact vx_out (E := RJxb5711) (q := q9) (fun x h9 => (hnt x h9).elim) hlocks hce9 hcv9 hcl9 (fun t9 ht9 ha9 => ⟨u9, ⟨h, hR.w, hsh⟩, ⟨rfl, by rw [ht9]; exact hR.P, hR.D⟩, hR.sS.F ht9⟩) hR.sS.2.2 (Nat.le_of_ble_eq_true rfl) (Nat.le_of_ble_eq_true rfl)
          · obtain ⟨hq59, hw9, hs9⟩ := hw9
            have hR : Rep g ad A s S58 H1 locs := hR.call ht9 hB9 hw9 hS hFc
            have hsh := hsh.tr hs9
            replace h := h.1  S58 hq59
            clear hB9 hz9 hk9 hvm9 ht9 hw9 hs9 hS
            generalize H1 = H at hR ⊢
            exact J_48 S58 v2_1 _ _ ls h  hsh hR (lv_sub hl [0, 1] rfl)
  obtain ⟨n9, h⟩ := h
  exact J_2 n9 S 1 _ _ ls h  hsh hR (lv_sub hl [1, 0] rfl)
