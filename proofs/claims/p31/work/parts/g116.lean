def w_findLive_J87 (Q : MS → Prop) (k38 : MS → Int32 → Int32 → Prop) (U87 : MS) (v87_1 : Int32) (v87_2 : Int32) : Prop := (∀ a8 : Int32, a8 = (v87_2 + Int32.ofInt (-1)) → k38 U87 v87_1 a8)
def w_findLive_J79 (Q : MS → Prop) (k38 : MS → Int32 → Int32 → Prop) (U79 : MS) (t79_0 : Int32) (v79_2 : Int32) (v79_3 : Int32) : Prop := (((0 : Int) ≤ v79_2.toInt ∧ v79_2.toInt < 1200) ∧ (∀ S15, S15 = wI U79 90 v79_2.toInt.toNat v79_3 → w_findLive_J87 Q k38 S15 t79_0 v79_2))
def w_findLive_J74 (Q : MS → Prop) (k38 : MS → Int32 → Int32 → Prop) (U74 : MS) (v74_2 : Int32) (v74_3 : Int32) : Prop := w_findLive_J79 Q k38 U74 1 v74_2 v74_3
def w_findLive_L38 (Q : MS → Prop) (k25 : MS → Int32 → Prop) : Nat → MS → Int32 → Int32 → Prop
  | 0, _, _, _ => False
  | n38 + 1, U38, v38_1, v38_2 => ((v38_2.toInt < 0 → k25 U38 v38_1) ∧ (¬ v38_2.toInt < 0 → (((0 : Int) ≤ v38_2.toInt ∧ v38_2.toInt < 1200) ∧ (((qI U38 81 v38_2.toInt.toNat).toInt = 0 → (∃ Q10, w_liveAt U38 v38_2 Q10 ∧ ∀ r11 S12, Q10 r11 S12 → ((v38_1.toInt = 0 → (((0 : Int) ≤ v38_2.toInt ∧ v38_2.toInt < 1200) ∧ ((r11.toInt = (qI S12 90 v38_2.toInt.toNat).toInt → w_findLive_J79 Q (w_findLive_L38 Q k25 n38) S12 0 v38_2 r11) ∧ (¬ r11.toInt = (qI S12 90 v38_2.toInt.toNat).toInt → w_findLive_J74 Q (w_findLive_L38 Q k25 n38) S12 v38_2 r11)))) ∧ (¬ v38_1.toInt = 0 → w_findLive_J74 Q (w_findLive_L38 Q k25 n38) S12 v38_2 r11)))) ∧ (¬ (qI U38 81 v38_2.toInt.toNat).toInt = 0 → w_findLive_J87 Q (w_findLive_L38 Q k25 n38) U38 v38_1 v38_2)))))
def w_findLive_L25 (Q : MS → Prop) : Nat → MS → Int32 → Prop
  | 0, _, _ => False
  | n25 + 1, U25, v25_1 => ((v25_1.toInt = 0 → Q U25) ∧ (¬ v25_1.toInt = 0 → (∀ a4 : Int32, a4 = ((qI U25 0 129) - (1 : Int32)) → (∃ n, w_findLive_L38 Q (w_findLive_L25 Q n25) n U25 0 a4))))
def w_findLive_L2 (Q : MS → Prop) : Nat → MS → Int32 → Prop
  | 0, _, _ => False
  | n2 + 1, U2, v2_1 => (((qI U2 0 129).toInt ≤ v2_1.toInt → (∃ n, w_findLive_L25 Q n U2 1)) ∧ (¬ (qI U2 0 129).toInt ≤ v2_1.toInt → (((0 : Int) ≤ v2_1.toInt ∧ v2_1.toInt < 1200) ∧ (∀ S21, S21 = wI U2 90 v2_1.toInt.toNat (0 : Int32) → (∀ a22 : Int32, a22 = (v2_1 + Int32.ofInt 1) → (w_findLive_L2 Q n2) S21 a22)))))
def w_findLive (S : MS) (Q : MS → Prop) : Prop := (∃ n, w_findLive_L2 Q n S 0)
set_option maxHeartbeats 2000000 in
set_option maxRecDepth 100000 in
theorem r_findLive (l : Launch) (g : Gr) (ad : Nat → Nat) (sz : Nat) (S : MS) (hw : wfM S) (Q : MS → Prop) (h : w_findLive S Q) : Met l yX14_findLive (wt2 yX14_findLive cX14_findLive 4 none) ({ frames := 4, cells := 0, slots := 0, locals := 90 }) (va_Pc [.ref (ad 0)] (st_R g ad sz S)) (va_Qv (fun (u : MS) => Q u ∧ wfM u ∧ shy S u) (fun (u : MS) (t : State) => qE g ad (va_A (Wd g ad S) sz) u t) (va_A (Wd g ad S) sz)) 0 0 (va_A (Wd g ad S) sz) := by
  refine Met.ofW (cc := cX14_findLive) (maxL := 4) (ret := none) (by decide) rfl ?_
  intro p e s m args below meth c s₁ B hml hv
  obtain ⟨rfl, hsz, hP, hK, hD0, hex, hE⟩ := hv
  have hx := B.exec
  have hb := B.bytes
  have hr := B.returns
  have hts0 := atoms_spec (ws := wt2 yX14_findLive cX14_findLive 4 none) B.pre
  have hts : ∀ w ∈ tb2, w.before _ s = true := fun w h => hts0 w (List.mem_cons_of_mem _ h)
  have hown : s.vm.findClass RX14 = some m.cls := findClass_of_methodNamed B.named
  subst hsz
  have hD := hD0.self (sz := s.heap.size)
  generalize hAe : va_A (Wd g ad S) s.heap.size = A at hD hE ⊢
  have hA : ∀ q : Nat, s.heap.size ≤ q → A q := fun q h => by rw [← hAe]; exact Or.inr h
  have hR : Rep g ad A s S s.heap [] := ⟨hK, hP, hD, va_S.rf, hw⟩
  clear hK hP hD hD0
  have hl := lv_entry ([.ref (ad 0)]) (n := 4) (Nat.le_of_ble_eq_true rfl)
  rw [lg_entry_eq]
  generalize (lg_sl ([.ref (ad 0)]) ++ List.replicate (4 - (lg_sl ([.ref (ad 0)])).length) Slot.unset).toArray = ls at hl ⊢
  have hl : lv_has ls 4 [(0, .ref (ad 0))] := hl
  have hsh : shy S S := shy.rf
  unfold w_findLive at h
  refine lv_iconst (v := 0) hx hb dX14_findLive_0 (by decide) ?_
  refine lv_istore_n (lv' := [(1, .int 0), (0, .ref (ad 0))]) hx hb dX14_findLive_1 rfl hl (by decide) rfl (fun ls hl => ?_)
  have J_2 : ∀ (n2 : Nat) (U2 : MS) (v2_1 : Int32) (H : Heap) (locs : List Loc) (ls : Array Slot), w_findLive_L2 Q n2 U2 v2_1 → shy S U2 → Rep g ad A s U2 H locs → lv_has ls 4 [(0, .ref (ad 0)), (1, .int v2_1)] → W p l e (headSpec (wt2 yX14_findLive cX14_findLive 4 none) ({ frames := 4, cells := 0, slots := 0, locals := 90 })).room s m ([.ref (ad 0)] : List Value).toArray below meth c H locs 0 0 (MQ below (va_Qv (fun (u : MS) => Q u ∧ wfM u ∧ shy S u) (fun (u : MS) (t : State) => qE g ad A u t) A) ([.ref (ad 0)] : List Value).toArray s 0 0 A) (F0 m 2 ls []) := by
    intro n2
    induction n2 with
    | zero => intro U2 v2_1 H locs ls h hsh hR hl; unfold w_findLive_L2 at h; exact h.elim
    | succ n2 ih_2 =>
      intro U2 v2_1 H locs ls h hsh hR hl
      unfold w_findLive_L2 at h
      refine lv_iload_n hx hb dX14_findLive_2 rfl (lv_at hl 1 rfl) ?_
      refine lv_aload_n hx hb dX14_findLive_3 rfl (lv_at hl 0 rfl) ?_
      refine va_get (D := rD g) (ci := 13) (v := .int (qI U2 0 129)) (C := RX14) (T := TX14) (N := 143) hx hb hts in2X14 hown hR.K hR.P 0 (hR.at14 hR.w.1) rfl 129 (by decide) (hts _ kx_691) (fun _ h9 => h9) rfl dX14_findLive_4 ?_
      refine lv_icmp_ge (tgt := 23) hx hb dX14_findLive_7 (by decide) (fun c1 => ?_) (fun c1 => ?_)
      · replace h := h.1 (k_le rfl rfl c1)
        refine lv_iconst (v := 1) hx hb dX14_findLive_23 (by decide) ?_
        refine lv_istore_n (lv' := [(1, .int 1), (0, .ref (ad 0))]) hx hb dX14_findLive_24 rfl hl (by decide) rfl (fun ls hl => ?_)
        have J_25 : ∀ (n25 : Nat) (U25 : MS) (v25_1 : Int32) (H : Heap) (locs : List Loc) (ls : Array Slot), w_findLive_L25 Q n25 U25 v25_1 → shy S U25 → Rep g ad A s U25 H locs → lv_has ls 4 [(0, .ref (ad 0)), (1, .int v25_1)] → W p l e (headSpec (wt2 yX14_findLive cX14_findLive 4 none) ({ frames := 4, cells := 0, slots := 0, locals := 90 })).room s m ([.ref (ad 0)] : List Value).toArray below meth c H locs 0 0 (MQ below (va_Qv (fun (u : MS) => Q u ∧ wfM u ∧ shy S u) (fun (u : MS) (t : State) => qE g ad A u t) A) ([.ref (ad 0)] : List Value).toArray s 0 0 A) (F0 m 25 ls []) := by
          intro n25
          induction n25 with
          | zero => intro U25 v25_1 H locs ls h hsh hR hl; unfold w_findLive_L25 at h; exact h.elim
          | succ n25 ih_25 =>
            intro U25 v25_1 H locs ls h hsh hR hl
            unfold w_findLive_L25 at h
            refine lv_iload_n hx hb dX14_findLive_25 rfl (lv_at hl 1 rfl) ?_
            refine lv_if_eq (tgt := 96) hx hb dX14_findLive_26 (by decide) (fun c2 => ?_) (fun c2 => ?_)
            · replace h := h.1 (k_eq rfl (by decide) c2)
              exact W.vret hx hb hr (fun t9 ht9 hW9 => ⟨⟨U25, rfl, ⟨h, hR.w, hsh⟩, ⟨by rw [ht9]; exact hR.P, hR.D⟩⟩, hR.sS.F ht9⟩) hR.sS.2.2 dX14_findLive_96
            · replace h := h.2 (k_ne rfl (by decide) c2)
              refine lv_iconst (v := 0) hx hb dX14_findLive_29 (by decide) ?_
              refine lv_istore_n (lv' := [(1, .int 0), (0, .ref (ad 0))]) hx hb dX14_findLive_30 rfl hl (by decide) rfl (fun ls hl => ?_)
              refine lv_aload_n hx hb dX14_findLive_31 rfl (lv_at hl 1 rfl) ?_
              refine va_get (D := rD g) (ci := 13) (v := .int (qI U25 0 129)) (C := RX14) (T := TX14) (N := 143) hx hb hts in2X14 hown hR.K hR.P 0 (hR.at14 hR.w.1) rfl 129 (by decide) (hts _ kx_691) (fun _ h9 => h9) rfl dX14_findLive_32 ?_
              refine lv_iconst (v := 1) hx hb dX14_findLive_35 (by decide) ?_
              refine lv_isub hx hb dX14_findLive_36 ?_
              refine lv_topi (fun z3 ez3 => ?_)
              obtain rfl : z3 = ((qI U25 0 129) - (1 : Int32)) := ez3
              obtain ⟨a4, ea4⟩ : ∃ z, z = ((qI U25 0 129) - (1 : Int32)) := ⟨_, rfl⟩
              rw [← ea4]
              replace h := h a4 ea4
              refine lv_istore_n (lv' := [(2, .int a4), (1, .int 0), (0, .ref (ad 0))]) hx hb dX14_findLive_37 rfl hl (by decide) rfl (fun ls hl => ?_)
              have J_38 : ∀ (n38 : Nat) (U38 : MS) (v38_1 : Int32) (v38_2 : Int32) (H : Heap) (locs : List Loc) (ls : Array Slot), w_findLive_L38 Q (w_findLive_L25 Q n25) n38 U38 v38_1 v38_2 → shy S U38 → Rep g ad A s U38 H locs → lv_has ls 4 [(0, .ref (ad 0)), (1, .int v38_1), (2, .int v38_2)] → W p l e (headSpec (wt2 yX14_findLive cX14_findLive 4 none) ({ frames := 4, cells := 0, slots := 0, locals := 90 })).room s m ([.ref (ad 0)] : List Value).toArray below meth c H locs 0 0 (MQ below (va_Qv (fun (u : MS) => Q u ∧ wfM u ∧ shy S u) (fun (u : MS) (t : State) => qE g ad A u t) A) ([.ref (ad 0)] : List Value).toArray s 0 0 A) (F0 m 38 ls []) := by
                intro n38
                induction n38 with
                | zero => intro U38 v38_1 v38_2 H locs ls h hsh hR hl; unfold w_findLive_L38 at h; exact h.elim
                | succ n38 ih_38 =>
                  intro U38 v38_1 v38_2 H locs ls h hsh hR hl
                  unfold w_findLive_L38 at h
                  refine lv_iload_n hx hb dX14_findLive_38 rfl (lv_at hl 2 rfl) ?_
                  refine lv_if_lt (tgt := 93) hx hb dX14_findLive_39 (by decide) (fun c5 => ?_) (fun c5 => ?_)
                  · replace h := h.1 (k_lt rfl (by decide) c5)
                    refine lv_goto (tgt := 25) hx hb dX14_findLive_93 (by decide) ?_
                    exact ih_25 U38 v38_1 _ _ ls h  hsh hR (lv_sub hl [0, 1] rfl)
                  · replace h := h.2 (k_nlt rfl (by decide) c5)
                    refine lv_aload_n hx hb dX14_findLive_42 rfl (lv_at hl 0 rfl) ?_
                    refine va_get (D := rD g) (ci := 13) (v := .ref (ad 81)) (C := RX14) (T := TX14) (N := 143) hx hb hts in2X14 hown hR.K hR.P 0 (hR.at14 hR.w.1) rfl 128 (by decide) (hts _ kx_692) (fun _ h9 => h9) (congrArg (fun z => some (vf ad z)) (hR.w.2.1 _ fin_128).1) dX14_findLive_43 ?_
                    refine lv_iload_n hx hb dX14_findLive_46 rfl (lv_at hl 2 rfl) ?_
                    obtain ⟨hv6, h⟩ := h
                    refine va_zald hx hb hR.K hR.P 81 2 (hR.atZ (hR.w.2.1 _ fin_128).2.1) rfl (k_ixN (k_ix (n := 1200) (x := v38_2) (a := v38_2.toInt) rfl hv6) (hR.w.2.1 _ fin_128).2.2) dX14_findLive_47 ?_
                    refine lv_topi (fun z7 ez7 => ?_)
                    obtain rfl : z7 = (qI U38 81 v38_2.toInt.toNat) := ez7
                    have J_87 : ∀ (U87 : MS) (v87_1 : Int32) (v87_2 : Int32) (H : Heap) (locs : List Loc) (ls : Array Slot), w_findLive_J87 Q (w_findLive_L38 Q (w_findLive_L25 Q n25) n38) U87 v87_1 v87_2 → shy S U87 → Rep g ad A s U87 H locs → lv_has ls 4 [(0, .ref (ad 0)), (1, .int v87_1), (2, .int v87_2)] → W p l e (headSpec (wt2 yX14_findLive cX14_findLive 4 none) ({ frames := 4, cells := 0, slots := 0, locals := 90 })).room s m ([.ref (ad 0)] : List Value).toArray below meth c H locs 0 0 (MQ below (va_Qv (fun (u : MS) => Q u ∧ wfM u ∧ shy S u) (fun (u : MS) (t : State) => qE g ad A u t) A) ([.ref (ad 0)] : List Value).toArray s 0 0 A) (F0 m 87 ls []) := by
                      intro U87 v87_1 v87_2 H locs ls h hsh hR hl
                      unfold w_findLive_J87 at h
                      obtain ⟨a8, ea8⟩ : ∃ z, z = (v87_2 + Int32.ofInt (-1)) := ⟨_, rfl⟩
                      replace h := h a8 ea8
                      refine lv_iinc (v := a8) (lv' := [(2, .int a8), (0, .ref (ad 0)), (1, .int v87_1)]) hx hb dX14_findLive_87 hl (k := 2) rfl ea8.symm (by decide) rfl (fun ls hl => ?_)
                      refine lv_goto (tgt := 38) hx hb dX14_findLive_90 (by decide) ?_
                      exact ih_38 U87 v87_1 a8 _ _ ls h  hsh hR (lv_sub hl [1, 2, 0] rfl)
                    refine lv_if_eq (tgt := 54) hx hb dX14_findLive_48 (by decide) (fun c9 => ?_) (fun c9 => ?_)
                    · replace h := h.1 (k_eq rfl (by decide) c9)
                      refine lv_aload_n hx hb dX14_findLive_54 rfl (lv_at hl 0 rfl) ?_
                      refine lv_iload_n hx hb dX14_findLive_55 rfl (lv_at hl 2 rfl) ?_
                      obtain ⟨Q10, h0, h⟩ := h
                      have hFc := rfree hR hA
                      refine va_calli (va_runV (As := [.int v38_2]) (rest := []) ⟨hx, hb, hml, hown, hts⟩ (r_liveAt l g ad H.size U38 v38_2 hR.w  Q10 h0) (cwV 1 hts (gd2_V kx_798 kx_799 kx_800 kx_177 kx_801) rfl rfl rfl (by decide +kernel) ⟨Nat.le_of_ble_eq_true rfl, Nat.le_of_ble_eq_true rfl⟩) ⟨rblind, va_recv hR.K hR.P (ci := 13) (q0 := 0) rfl (hR.at14 hR.w.1), fun U hU hW9 => rmk hU hW9 hR hex hE hFc⟩ rfl rfl hl.1 rfl (lv_room (Nat.le_of_ble_eq_true rfl)) dX14_findLive_56 ⟨Nat.le_of_ble_eq_true rfl, Nat.le_of_ble_eq_true rfl⟩) hR.sS (fun q _ h => hFc q h) hFc (fun r11 S12 t9 H1 locs ht9 hvm9 hw9 hB9 hz9 hk9 hS => ?_)
                      obtain ⟨hq13, hw9, hs9⟩ := hw9
                      have hR : Rep g ad A s S12 H1 locs := hR.call ht9 hB9 hw9 hS hFc
                      have hsh := hsh.tr hs9
                      replace h := h r11 S12 hq13
                      clear hB9 hz9 hk9 hvm9 ht9 hw9 hs9 hS
                      generalize H1 = H at hR ⊢
                      refine lv_istore_n (lv' := [(3, .int r11), (0, .ref (ad 0)), (1, .int v38_1), (2, .int v38_2)]) hx hb dX14_findLive_59 rfl hl (by decide) rfl (fun ls hl => ?_)
                      refine lv_iload_n hx hb dX14_findLive_60 rfl (lv_at hl 2 rfl) ?_
                      have J_79 : ∀ (U79 : MS) (t79_0 : Int32) (v79_2 : Int32) (v79_3 : Int32) (H : Heap) (locs : List Loc) (ls : Array Slot), w_findLive_J79 Q (w_findLive_L38 Q (w_findLive_L25 Q n25) n38) U79 t79_0 v79_2 v79_3 → (t79_0 = 0 ∨ t79_0 = 1) → shy S U79 → Rep g ad A s U79 H locs → lv_has ls 4 [(0, .ref (ad 0)), (2, .int v79_2), (3, .int v79_3)] → W p l e (headSpec (wt2 yX14_findLive cX14_findLive 4 none) ({ frames := 4, cells := 0, slots := 0, locals := 90 })).room s m ([.ref (ad 0)] : List Value).toArray below meth c H locs 0 0 (MQ below (va_Qv (fun (u : MS) => Q u ∧ wfM u ∧ shy S u) (fun (u : MS) (t : State) => qE g ad A u t) A) ([.ref (ad 0)] : List Value).toArray s 0 0 A) (F0 m 79 ls [.int t79_0]) := by
                        intro U79 t79_0 v79_2 v79_3 H locs ls h hz_t79_0 hsh hR hl
                        unfold w_findLive_J79 at h
                        refine lv_istore_n (lv' := [(1, .int t79_0), (0, .ref (ad 0)), (2, .int v79_2), (3, .int v79_3)]) hx hb dX14_findLive_79 rfl hl (by decide) rfl (fun ls hl => ?_)
                        refine lv_aload_n hx hb dX14_findLive_80 rfl (lv_at hl 1 rfl) ?_
                        refine va_get (D := rD g) (ci := 13) (v := .ref (ad 90)) (C := RX14) (T := TX14) (N := 143) hx hb hts in2X14 hown hR.K hR.P 0 (hR.at14 hR.w.1) rfl 140 (by decide) (hts _ kx_784) (fun _ h9 => h9) (congrArg (fun z => some (vf ad z)) (hR.w.2.1 _ fin_140).1) dX14_findLive_81 ?_
                        refine lv_iload_n hx hb dX14_findLive_84 rfl (lv_at hl 2 rfl) ?_
                        refine lv_iload_n hx hb dX14_findLive_85 rfl (lv_at hl 3 rfl) ?_
                        obtain ⟨hv14, h⟩ := h
                        refine va_iast hx hb hR.K hR.P hR.D hR.sS 90 1 (hR.atI (hR.w.2.1 _ fin_140).2.1) rfl (k_ixN (k_ix (n := 1200) (x := v79_2) (a := v79_2.toInt) rfl hv14) (hR.w.2.1 _ fin_140).2.2) dX14_findLive_86 (fun H locs hP hD hS => ?_)
                        have hR : Rep g ad A s (wI U79 90 v79_2.toInt.toNat v79_3) H locs := hR.aI (hR.w.2.1 _ fin_140).2.1 hP hD hS
                        obtain ⟨S15, eS15⟩ : ∃ z, z = wI U79 90 v79_2.toInt.toNat v79_3 := ⟨_, rfl⟩
                        rw [← eS15] at hR
                        replace h := h S15 eS15
                        have hsh : shy S S15 := by rw [eS15]; exact hsh
                        exact J_87 S15 t79_0 v79_2 _ _ ls h  hsh hR (lv_sub hl [1, 0, 2] rfl)
                      have J_74 : ∀ (U74 : MS) (v74_2 : Int32) (v74_3 : Int32) (H : Heap) (locs : List Loc) (ls : Array Slot), w_findLive_J74 Q (w_findLive_L38 Q (w_findLive_L25 Q n25) n38) U74 v74_2 v74_3 → shy S U74 → Rep g ad A s U74 H locs → lv_has ls 4 [(0, .ref (ad 0)), (2, .int v74_2), (3, .int v74_3)] → W p l e (headSpec (wt2 yX14_findLive cX14_findLive 4 none) ({ frames := 4, cells := 0, slots := 0, locals := 90 })).room s m ([.ref (ad 0)] : List Value).toArray below meth c H locs 0 0 (MQ below (va_Qv (fun (u : MS) => Q u ∧ wfM u ∧ shy S u) (fun (u : MS) (t : State) => qE g ad A u t) A) ([.ref (ad 0)] : List Value).toArray s 0 0 A) (F0 m 74 ls []) := by
                        intro U74 v74_2 v74_3 H locs ls h hsh hR hl
                        unfold w_findLive_J74 at h
                        refine lv_iconst (v := 1) hx hb dX14_findLive_74 (by decide) ?_
                        refine lv_goto (tgt := 79) hx hb dX14_findLive_75 (by decide) ?_
                        exact J_79 U74 1 v74_2 v74_3 _ _ ls h (Or.inr rfl) hsh hR (lv_sub hl [0, 1, 2] rfl)
                      refine lv_if_ne (tgt := 74) hx hb dX14_findLive_61 (by decide) (fun c16 => ?_) (fun c16 => ?_)
                      · replace h := h.2 (k_ne rfl (by decide) c16)
                        exact J_74 S12 v38_2 r11 _ _ ls h  hsh hR (lv_sub hl [1, 3, 0] rfl)
                      · replace h := h.1 (k_eq rfl (by decide) c16)
                        refine lv_iload_n hx hb dX14_findLive_64 rfl (lv_at hl 0 rfl) ?_
                        refine lv_aload_n hx hb dX14_findLive_65 rfl (lv_at hl 1 rfl) ?_
                        refine va_get (D := rD g) (ci := 13) (v := .ref (ad 90)) (C := RX14) (T := TX14) (N := 143) hx hb hts in2X14 hown hR.K hR.P 0 (hR.at14 hR.w.1) rfl 140 (by decide) (hts _ kx_784) (fun _ h9 => h9) (congrArg (fun z => some (vf ad z)) (hR.w.2.1 _ fin_140).1) dX14_findLive_66 ?_
                        refine lv_iload_n hx hb dX14_findLive_69 rfl (lv_at hl 3 rfl) ?_
                        obtain ⟨hv17, h⟩ := h
                        refine va_iald hx hb hR.K hR.P 90 1 (hR.atI (hR.w.2.1 _ fin_140).2.1) rfl (k_ixN (k_ix (n := 1200) (x := v38_2) (a := v38_2.toInt) rfl hv17) (hR.w.2.1 _ fin_140).2.2) dX14_findLive_70 ?_
                        refine lv_topi (fun z18 ez18 => ?_)
                        obtain rfl : z18 = (qI S12 90 v38_2.toInt.toNat) := ez18
                        refine lv_icmp_eq (tgt := 78) hx hb dX14_findLive_71 (by decide) (fun c19 => ?_) (fun c19 => ?_)
                        · replace h := h.1 (k_eq rfl rfl c19)
                          refine lv_iconst (v := 0) hx hb dX14_findLive_78 (by decide) ?_
                          exact J_79 S12 0 v38_2 r11 _ _ ls h (Or.inl rfl) hsh hR (lv_sub hl [1, 3, 0] rfl)
                        · replace h := h.2 (k_ne rfl rfl c19)
                          exact J_74 S12 v38_2 r11 _ _ ls h  hsh hR (lv_sub hl [1, 3, 0] rfl)
                    · replace h := h.2 (k_ne rfl (by decide) c9)
                      refine lv_goto (tgt := 87) hx hb dX14_findLive_51 (by decide) ?_
                      exact J_87 U38 v38_1 v38_2 _ _ ls h  hsh hR (lv_sub hl [0, 1, 2] rfl)
              obtain ⟨n9, h⟩ := h
              exact J_38 n9 U25 0 a4 _ _ ls h  hsh hR (lv_sub hl [2, 1, 0] rfl)
        obtain ⟨n9, h⟩ := h
        exact J_25 n9 U2 1 _ _ ls h  hsh hR (lv_sub hl [1, 0] rfl)
      · replace h := h.2 (k_nle rfl rfl c1)
        refine lv_aload_n hx hb dX14_findLive_10 rfl (lv_at hl 0 rfl) ?_
        refine va_get (D := rD g) (ci := 13) (v := .ref (ad 90)) (C := RX14) (T := TX14) (N := 143) hx hb hts in2X14 hown hR.K hR.P 0 (hR.at14 hR.w.1) rfl 140 (by decide) (hts _ kx_784) (fun _ h9 => h9) (congrArg (fun z => some (vf ad z)) (hR.w.2.1 _ fin_140).1) dX14_findLive_11 ?_
        refine lv_iload_n hx hb dX14_findLive_14 rfl (lv_at hl 1 rfl) ?_
        refine lv_iconst (v := 0) hx hb dX14_findLive_15 (by decide) ?_
        obtain ⟨hv20, h⟩ := h
        refine va_iast hx hb hR.K hR.P hR.D hR.sS 90 1 (hR.atI (hR.w.2.1 _ fin_140).2.1) rfl (k_ixN (k_ix (n := 1200) (x := v2_1) (a := v2_1.toInt) rfl hv20) (hR.w.2.1 _ fin_140).2.2) dX14_findLive_16 (fun H locs hP hD hS => ?_)
        have hR : Rep g ad A s (wI U2 90 v2_1.toInt.toNat (0 : Int32)) H locs := hR.aI (hR.w.2.1 _ fin_140).2.1 hP hD hS
        obtain ⟨S21, eS21⟩ : ∃ z, z = wI U2 90 v2_1.toInt.toNat (0 : Int32) := ⟨_, rfl⟩
        rw [← eS21] at hR
        replace h := h S21 eS21
        have hsh : shy S S21 := by rw [eS21]; exact hsh
        obtain ⟨a22, ea22⟩ : ∃ z, z = (v2_1 + Int32.ofInt 1) := ⟨_, rfl⟩
        replace h := h a22 ea22
        refine lv_iinc (v := a22) (lv' := [(1, .int a22), (0, .ref (ad 0))]) hx hb dX14_findLive_17 hl (k := 1) rfl ea22.symm (by decide) rfl (fun ls hl => ?_)
        refine lv_goto (tgt := 2) hx hb dX14_findLive_20 (by decide) ?_
        exact ih_2 S21 a22 _ _ ls h  hsh hR (lv_sub hl [1, 0] rfl)
  obtain ⟨n9, h⟩ := h
  exact J_2 n9 S 0 _ _ ls h  hsh hR (lv_sub hl [1, 0] rfl)
def w_isBack_J73 (Q : Int32 → MS → Prop) (U73 : MS) : Prop := Q (0 : Int32) U73
def w_isBack (S : MS) (x1 : Int32) (x2 : Int32) (Q : Int32 → MS → Prop) : Prop := (((0 : Int) ≤ x1.toInt ∧ x1.toInt < 1200) ∧ (d_isStore S (qI S 78 x1.toInt.toNat) ∧ (((f_isStore S (qI S 78 x1.toInt.toNat)).toInt = 0 → w_isBack_J73 Q S) ∧ (¬ (f_isStore S (qI S 78 x1.toInt.toNat)).toInt = 0 → (((0 : Int) ≤ x2.toInt ∧ x2.toInt < 1200) ∧ (((0 : Int) ≤ x1.toInt ∧ x1.toInt < 1200) ∧ (((qI S 78 x2.toInt.toNat).toInt = ((qI S 78 x1.toInt.toNat) - (33 : Int32)).toInt → (((0 : Int) ≤ x1.toInt ∧ x1.toInt < 1200) ∧ (((0 : Int) ≤ x2.toInt ∧ x2.toInt < 1200) ∧ (((qI S 79 x1.toInt.toNat).toInt = (qI S 79 x2.toInt.toNat).toInt → (∃ Q18, w_liveBehind S x2 Q18 ∧ ∀ r19 S20, Q18 r19 S20 → (((0 : Int) ≤ x2.toInt ∧ x2.toInt < 1200) ∧ (((0 : Int) ≤ x2.toInt ∧ x2.toInt < 1200) ∧ (d_bitsOf S20 (qI S20 78 x2.toInt.toNat) (qI S20 79 x2.toInt.toNat) ∧ (((r19 &&& (f_bitsOf S20 (qI S20 78 x2.toInt.toNat) (qI S20 79 x2.toInt.toNat))).toInt = 0 → Q (1 : Int32) S20) ∧ (¬ (r19 &&& (f_bitsOf S20 (qI S20 78 x2.toInt.toNat) (qI S20 79 x2.toInt.toNat))).toInt = 0 → w_isBack_J73 Q S20))))))) ∧ (¬ (qI S 79 x1.toInt.toNat).toInt = (qI S 79 x2.toInt.toNat).toInt → w_isBack_J73 Q S))))) ∧ (¬ (qI S 78 x2.toInt.toNat).toInt = ((qI S 78 x1.toInt.toNat) - (33 : Int32)).toInt → w_isBack_J73 Q S))))))))
set_option maxHeartbeats 2000000 in
set_option maxRecDepth 100000 in
theorem r_isBack (l : Launch) (g : Gr) (ad : Nat → Nat) (sz : Nat) (S : MS) (x1 : Int32) (x2 : Int32) (hw : wfM S) (Q : Int32 → MS → Prop) (h : w_isBack S x1 x2 Q) : Met l yX14_isBack (wt2 yX14_isBack cX14_isBack 3 (some .boolean)) ({ frames := 3, cells := 0, slots := 0, locals := 67 }) (va_Pc [.ref (ad 0), .int x1, .int x2] (st_R g ad sz S)) (va_Qi (fun (r : Int32) (u : MS) => Q r u ∧ wfM u ∧ shy S u ∧ (r = 0 ∨ r = 1)) (fun (u : MS) (t : State) => qE g ad (va_A (Wd g ad S) sz) u t) (va_A (Wd g ad S) sz)) 0 0 (va_A (Wd g ad S) sz) := by
  refine Met.ofW (cc := cX14_isBack) (maxL := 3) (ret := (some .boolean)) (by decide) rfl ?_
  intro p e s m args below meth c s₁ B hml hv
  obtain ⟨rfl, hsz, hP, hK, hD0, hex, hE⟩ := hv
  have hx := B.exec
  have hb := B.bytes
  have hr := B.returns
  have hts0 := atoms_spec (ws := wt2 yX14_isBack cX14_isBack 3 (some .boolean)) B.pre
  have hts : ∀ w ∈ tb2, w.before _ s = true := fun w h => hts0 w (List.mem_cons_of_mem _ h)
  have hown : s.vm.findClass RX14 = some m.cls := findClass_of_methodNamed B.named
  subst hsz
  have hD := hD0.self (sz := s.heap.size)
  generalize hAe : va_A (Wd g ad S) s.heap.size = A at hD hE ⊢
  have hA : ∀ q : Nat, s.heap.size ≤ q → A q := fun q h => by rw [← hAe]; exact Or.inr h
  have hR : Rep g ad A s S s.heap [] := ⟨hK, hP, hD, va_S.rf, hw⟩
  clear hK hP hD hD0
  have hl := lv_entry ([.ref (ad 0), .int x1, .int x2]) (n := 3) (Nat.le_of_ble_eq_true rfl)
  rw [lg_entry_eq]
  generalize (lg_sl ([.ref (ad 0), .int x1, .int x2]) ++ List.replicate (3 - (lg_sl ([.ref (ad 0), .int x1, .int x2])).length) Slot.unset).toArray = ls at hl ⊢
  have hl : lv_has ls 3 [(0, .ref (ad 0)), (1, .int x1), (2, .int x2)] := hl
  have hsh : shy S S := shy.rf
  unfold w_isBack at h
  refine lv_aload_n hx hb dX14_isBack_0 rfl (lv_at hl 0 rfl) ?_
  refine va_get (D := rD g) (ci := 13) (v := .ref (ad 78)) (C := RX14) (T := TX14) (N := 143) hx hb hts in2X14 hown hR.K hR.P 0 (hR.at14 hR.w.1) rfl 125 (by decide) (hts _ kx_697) (fun _ h9 => h9) (congrArg (fun z => some (vf ad z)) (hR.w.2.1 _ fin_125).1) dX14_isBack_1 ?_
  refine lv_iload_n hx hb dX14_isBack_4 rfl (lv_at hl 1 rfl) ?_
  obtain ⟨hv1, h⟩ := h
  refine va_iald hx hb hR.K hR.P 78 1 (hR.atI (hR.w.2.1 _ fin_125).2.1) rfl (k_ixN (k_ix (n := 1200) (x := x1) (a := x1.toInt) rfl hv1) (hR.w.2.1 _ fin_125).2.2) dX14_isBack_5 ?_
  refine lv_topi (fun z2 ez2 => ?_)
  obtain rfl : z2 = (qI S 78 x1.toInt.toNat) := ez2
  obtain ⟨hv3, h⟩ := h
  have hFc := rfree hR hA
  refine va_calli (va_runS (As := [.int (qI S 78 x1.toInt.toNat)]) (rest := []) ⟨hx, hb, hml, hown, hts⟩ (r_isStore l g ad s.heap.size S (qI S 78 x1.toInt.toNat) hR.w  hv3) (va_cwS 1 hts (gd2_S kx_789 kx_790 kx_177 kx_791) rfl rfl rfl (by decide +kernel) ⟨Nat.le_of_ble_eq_true rfl, Nat.le_of_ble_eq_true rfl⟩) ⟨rblind, fun U hU hW9 => rmk hU hW9 hR hex hE hFc⟩ rfl rfl hl.1 rfl (lv_room (Nat.le_of_ble_eq_true rfl)) dX14_isBack_6 ⟨Nat.le_of_ble_eq_true rfl, Nat.le_of_ble_eq_true rfl⟩) hR.sS (fun q _ h => hFc q h) hFc (fun r4 u9 t9 H1 locs ht9 hvm9 hw9 hB9 hz9 hk9 hS => ?_)
  have hR : Rep g ad A s S H1 locs := hR.call ht9 hB9 hR.w hS hFc
  obtain ⟨rfl, hz_r4⟩ := hw9
  clear hB9 hz9 hk9 hvm9 ht9 hS
  generalize H1 = H at hR ⊢
  have J_73 : ∀ (U73 : MS) (H : Heap) (locs : List Loc) (ls : Array Slot), w_isBack_J73 Q U73 → shy S U73 → Rep g ad A s U73 H locs → lv_has ls 3 [] → W p l e (headSpec (wt2 yX14_isBack cX14_isBack 3 (some .boolean)) ({ frames := 3, cells := 0, slots := 0, locals := 67 })).room s m ([.ref (ad 0), .int x1, .int x2] : List Value).toArray below meth c H locs 0 0 (MQ below (va_Qi (fun (r : Int32) (u : MS) => Q r u ∧ wfM u ∧ shy S u ∧ (r = 0 ∨ r = 1)) (fun (u : MS) (t : State) => qE g ad A u t) A) ([.ref (ad 0), .int x1, .int x2] : List Value).toArray s 0 0 A) (F0 m 73 ls []) := by
    intro U73 H locs ls h hsh hR hl
    unfold w_isBack_J73 at h
    refine lv_iconst (v := 0) hx hb dX14_isBack_73 (by decide) ?_
    exact W.zret (v := 0) hx hb hr (nz (Or.inl rfl)) (fun t9 ht9 hW9 => ⟨⟨_, U73, rfl, ⟨h, hR.w, hsh, (Or.inl rfl)⟩, ⟨by rw [ht9]; exact hR.P, hR.D⟩⟩, hR.sS.F ht9⟩) hR.sS.2.2 dX14_isBack_74
  refine lv_if_eq (tgt := 73) hx hb dX14_isBack_9 (by decide) (fun c6 => ?_) (fun c6 => ?_)
  · replace h := h.1 (k_eq rfl (by decide) c6)
    exact J_73 S _ _ ls h  hsh hR (lv_sub hl [] rfl)
  · replace h := h.2 (k_ne rfl (by decide) c6)
    refine lv_aload_n hx hb dX14_isBack_12 rfl (lv_at hl 0 rfl) ?_
    refine va_get (D := rD g) (ci := 13) (v := .ref (ad 78)) (C := RX14) (T := TX14) (N := 143) hx hb hts in2X14 hown hR.K hR.P 0 (hR.at14 hR.w.1) rfl 125 (by decide) (hts _ kx_697) (fun _ h9 => h9) (congrArg (fun z => some (vf ad z)) (hR.w.2.1 _ fin_125).1) dX14_isBack_13 ?_
    refine lv_iload_n hx hb dX14_isBack_16 rfl (lv_at hl 2 rfl) ?_
    obtain ⟨hv7, h⟩ := h
    refine va_iald hx hb hR.K hR.P 78 1 (hR.atI (hR.w.2.1 _ fin_125).2.1) rfl (k_ixN (k_ix (n := 1200) (x := x2) (a := x2.toInt) rfl hv7) (hR.w.2.1 _ fin_125).2.2) dX14_isBack_17 ?_
    refine lv_topi (fun z8 ez8 => ?_)
    obtain rfl : z8 = (qI S 78 x2.toInt.toNat) := ez8
    refine lv_aload_n hx hb dX14_isBack_18 rfl (lv_at hl 0 rfl) ?_
    refine va_get (D := rD g) (ci := 13) (v := .ref (ad 78)) (C := RX14) (T := TX14) (N := 143) hx hb hts in2X14 hown hR.K hR.P 0 (hR.at14 hR.w.1) rfl 125 (by decide) (hts _ kx_697) (fun _ h9 => h9) (congrArg (fun z => some (vf ad z)) (hR.w.2.1 _ fin_125).1) dX14_isBack_19 ?_
    refine lv_iload_n hx hb dX14_isBack_22 rfl (lv_at hl 1 rfl) ?_
    obtain ⟨hv9, h⟩ := h
    refine va_iald hx hb hR.K hR.P 78 1 (hR.atI (hR.w.2.1 _ fin_125).2.1) rfl (k_ixN (k_ix (n := 1200) (x := x1) (a := x1.toInt) rfl hv9) (hR.w.2.1 _ fin_125).2.2) dX14_isBack_23 ?_
    refine lv_topi (fun z10 ez10 => ?_)
    obtain rfl : z10 = (qI S 78 x1.toInt.toNat) := ez10
    refine lv_bipush (v := 33) hx hb dX14_isBack_24 (by decide) ?_
    refine lv_isub hx hb dX14_isBack_26 ?_
    refine lv_topi (fun z11 ez11 => ?_)
    obtain rfl : z11 = ((qI S 78 x1.toInt.toNat) - (33 : Int32)) := ez11
    refine lv_icmp_ne (tgt := 73) hx hb dX14_isBack_27 (by decide) (fun c12 => ?_) (fun c12 => ?_)
    · replace h := h.2 (k_ne rfl rfl c12)
      exact J_73 S _ _ ls h  hsh hR (lv_sub hl [] rfl)
    · replace h := h.1 (k_eq rfl rfl c12)
      refine lv_aload_n hx hb dX14_isBack_30 rfl (lv_at hl 0 rfl) ?_
      refine va_get (D := rD g) (ci := 13) (v := .ref (ad 79)) (C := RX14) (T := TX14) (N := 143) hx hb hts in2X14 hown hR.K hR.P 0 (hR.at14 hR.w.1) rfl 126 (by decide) (hts _ kx_700) (fun _ h9 => h9) (congrArg (fun z => some (vf ad z)) (hR.w.2.1 _ fin_126).1) dX14_isBack_31 ?_
      refine lv_iload_n hx hb dX14_isBack_34 rfl (lv_at hl 1 rfl) ?_
      obtain ⟨hv13, h⟩ := h
      refine va_iald hx hb hR.K hR.P 79 1 (hR.atI (hR.w.2.1 _ fin_126).2.1) rfl (k_ixN (k_ix (n := 1200) (x := x1) (a := x1.toInt) rfl hv13) (hR.w.2.1 _ fin_126).2.2) dX14_isBack_35 ?_
      refine lv_topi (fun z14 ez14 => ?_)
      obtain rfl : z14 = (qI S 79 x1.toInt.toNat) := ez14
      refine lv_aload_n hx hb dX14_isBack_36 rfl (lv_at hl 0 rfl) ?_
      refine va_get (D := rD g) (ci := 13) (v := .ref (ad 79)) (C := RX14) (T := TX14) (N := 143) hx hb hts in2X14 hown hR.K hR.P 0 (hR.at14 hR.w.1) rfl 126 (by decide) (hts _ kx_700) (fun _ h9 => h9) (congrArg (fun z => some (vf ad z)) (hR.w.2.1 _ fin_126).1) dX14_isBack_37 ?_
      refine lv_iload_n hx hb dX14_isBack_40 rfl (lv_at hl 2 rfl) ?_
      obtain ⟨hv15, h⟩ := h
      refine va_iald hx hb hR.K hR.P 79 1 (hR.atI (hR.w.2.1 _ fin_126).2.1) rfl (k_ixN (k_ix (n := 1200) (x := x2) (a := x2.toInt) rfl hv15) (hR.w.2.1 _ fin_126).2.2) dX14_isBack_41 ?_
      refine lv_topi (fun z16 ez16 => ?_)
      obtain rfl : z16 = (qI S 79 x2.toInt.toNat) := ez16
      refine lv_icmp_ne (tgt := 73) hx hb dX14_isBack_42 (by decide) (fun c17 => ?_) (fun c17 => ?_)
      · replace h := h.2 (k_ne rfl rfl c17)
        exact J_73 S _ _ ls h  hsh hR (lv_sub hl [] rfl)
      · replace h := h.1 (k_eq rfl rfl c17)
        refine lv_aload_n hx hb dX14_isBack_45 rfl (lv_at hl 0 rfl) ?_
        refine lv_iload_n hx hb dX14_isBack_46 rfl (lv_at hl 2 rfl) ?_
        obtain ⟨Q18, h0, h⟩ := h
        have hFc := rfree hR hA
        refine va_calli (va_runV (As := [.int x2]) (rest := []) ⟨hx, hb, hml, hown, hts⟩ (r_liveBehind l g ad H.size S x2 hR.w  Q18 h0) (cwV 1 hts (gd2_V kx_785 kx_786 kx_787 kx_177 kx_788) rfl rfl rfl (by decide +kernel) ⟨Nat.le_of_ble_eq_true rfl, Nat.le_of_ble_eq_true rfl⟩) ⟨rblind, va_recv hR.K hR.P (ci := 13) (q0 := 0) rfl (hR.at14 hR.w.1), fun U hU hW9 => rmk hU hW9 hR hex hE hFc⟩ rfl rfl hl.1 rfl (lv_room (Nat.le_of_ble_eq_true rfl)) dX14_isBack_47 ⟨Nat.le_of_ble_eq_true rfl, Nat.le_of_ble_eq_true rfl⟩) hR.sS (fun q _ h => hFc q h) hFc (fun r19 S20 t9 H1 locs ht9 hvm9 hw9 hB9 hz9 hk9 hS => ?_)
        obtain ⟨hq21, hw9, hs9⟩ := hw9
        have hR : Rep g ad A s S20 H1 locs := hR.call ht9 hB9 hw9 hS hFc
        have hsh := hsh.tr hs9
        replace h := h r19 S20 hq21
        clear hB9 hz9 hk9 hvm9 ht9 hw9 hs9 hS
        generalize H1 = H at hR ⊢
        refine lv_aload_n hx hb dX14_isBack_50 rfl (lv_at hl 0 rfl) ?_
        refine va_get (D := rD g) (ci := 13) (v := .ref (ad 78)) (C := RX14) (T := TX14) (N := 143) hx hb hts in2X14 hown hR.K hR.P 0 (hR.at14 hR.w.1) rfl 125 (by decide) (hts _ kx_697) (fun _ h9 => h9) (congrArg (fun z => some (vf ad z)) (hR.w.2.1 _ fin_125).1) dX14_isBack_51 ?_
        refine lv_iload_n hx hb dX14_isBack_54 rfl (lv_at hl 2 rfl) ?_
        obtain ⟨hv22, h⟩ := h
        refine va_iald hx hb hR.K hR.P 78 1 (hR.atI (hR.w.2.1 _ fin_125).2.1) rfl (k_ixN (k_ix (n := 1200) (x := x2) (a := x2.toInt) rfl hv22) (hR.w.2.1 _ fin_125).2.2) dX14_isBack_55 ?_
        refine lv_topi (fun z23 ez23 => ?_)
        obtain rfl : z23 = (qI S20 78 x2.toInt.toNat) := ez23
        refine lv_aload_n hx hb dX14_isBack_56 rfl (lv_at hl 0 rfl) ?_
        refine va_get (D := rD g) (ci := 13) (v := .ref (ad 79)) (C := RX14) (T := TX14) (N := 143) hx hb hts in2X14 hown hR.K hR.P 0 (hR.at14 hR.w.1) rfl 126 (by decide) (hts _ kx_700) (fun _ h9 => h9) (congrArg (fun z => some (vf ad z)) (hR.w.2.1 _ fin_126).1) dX14_isBack_57 ?_
        refine lv_iload_n hx hb dX14_isBack_60 rfl (lv_at hl 2 rfl) ?_
        obtain ⟨hv24, h⟩ := h
        refine va_iald hx hb hR.K hR.P 79 1 (hR.atI (hR.w.2.1 _ fin_126).2.1) rfl (k_ixN (k_ix (n := 1200) (x := x2) (a := x2.toInt) rfl hv24) (hR.w.2.1 _ fin_126).2.2) dX14_isBack_61 ?_
        refine lv_topi (fun z25 ez25 => ?_)
        obtain rfl : z25 = (qI S20 79 x2.toInt.toNat) := ez25
        obtain ⟨hv26, h⟩ := h
        have hFc := rfree hR hA
        refine va_calli (va_runS (As := [.int (qI S20 78 x2.toInt.toNat), .int (qI S20 79 x2.toInt.toNat)]) (rest := [.int r19]) ⟨hx, hb, hml, hown, hts⟩ (r_bitsOf l g ad H.size S20 (qI S20 78 x2.toInt.toNat) (qI S20 79 x2.toInt.toNat) hR.w  hv26) (va_cwS 2 hts (gd2_S kx_795 kx_796 kx_177 kx_797) rfl rfl rfl (by decide +kernel) ⟨Nat.le_of_ble_eq_true rfl, Nat.le_of_ble_eq_true rfl⟩) ⟨rblind, fun U hU hW9 => rmk hU hW9 hR hex hE hFc⟩ rfl rfl hl.1 rfl (lv_room (Nat.le_of_ble_eq_true rfl)) dX14_isBack_62 ⟨Nat.le_of_ble_eq_true rfl, Nat.le_of_ble_eq_true rfl⟩) hR.sS (fun q _ h => hFc q h) hFc (fun r27 u9 t9 H1 locs ht9 hvm9 hw9 hB9 hz9 hk9 hS => ?_)
        have hR : Rep g ad A s S20 H1 locs := hR.call ht9 hB9 hR.w hS hFc
        obtain rfl : r27 = (f_bitsOf S20 (qI S20 78 x2.toInt.toNat) (qI S20 79 x2.toInt.toNat)) := hw9
        clear hB9 hz9 hk9 hvm9 ht9 hS
        generalize H1 = H at hR ⊢
        refine lv_iand hx hb dX14_isBack_65 ?_
        refine lv_topi (fun z29 ez29 => ?_)
        obtain rfl : z29 = (r19 &&& (f_bitsOf S20 (qI S20 78 x2.toInt.toNat) (qI S20 79 x2.toInt.toNat))) := ez29
        refine lv_if_ne (tgt := 73) hx hb dX14_isBack_66 (by decide) (fun c30 => ?_) (fun c30 => ?_)
        · replace h := h.2 (k_ne rfl (by decide) c30)
          exact J_73 S20 _ _ ls h  hsh hR (lv_sub hl [] rfl)
        · replace h := h.1 (k_eq rfl (by decide) c30)
          refine lv_iconst (v := 1) hx hb dX14_isBack_69 (by decide) ?_
          refine lv_goto (tgt := 74) hx hb dX14_isBack_70 (by decide) ?_
          exact W.zret (v := 1) hx hb hr (nz (Or.inr rfl)) (fun t9 ht9 hW9 => ⟨⟨_, S20, rfl, ⟨h, hR.w, hsh, (Or.inr rfl)⟩, ⟨by rw [ht9]; exact hR.P, hR.D⟩⟩, hR.sS.F ht9⟩) hR.sS.2.2 dX14_isBack_74
def w_dead_J95 (Q : Int32 → MS → Prop) (U95 : MS) (t95_0 : Int32) (t95_1 : Int32) (v95_1 : Int32) : Prop := (((0 : Int) ≤ t95_1.toInt ∧ t95_1.toInt < 1200) ∧ (∀ S25, S25 = wI U95 78 t95_1.toInt.toNat t95_0 → (((0 : Int) ≤ v95_1.toInt ∧ v95_1.toInt < 1200) ∧ (∀ S27, S27 = wI S25 79 v95_1.toInt.toNat (0 : Int32) → (((0 : Int) ≤ v95_1.toInt ∧ v95_1.toInt < 1200) ∧ (∀ S29, S29 = wI S27 80 v95_1.toInt.toNat (0 : Int32) → Q (1 : Int32) S29))))))
def w_dead_J24 (Q : Int32 → MS → Prop) (U24 : MS) (v24_1 : Int32) : Prop := (∃ Q6, w_liveBehind U24 v24_1 Q6 ∧ ∀ r7 S8, Q6 r7 S8 → (((0 : Int) ≤ v24_1.toInt ∧ v24_1.toInt < 1200) ∧ (((0 : Int) ≤ v24_1.toInt ∧ v24_1.toInt < 1200) ∧ (d_bitsOf S8 (qI S8 78 v24_1.toInt.toNat) (qI S8 79 v24_1.toInt.toNat) ∧ (((r7 &&& (f_bitsOf S8 (qI S8 78 v24_1.toInt.toNat) (qI S8 79 v24_1.toInt.toNat))).toInt = 0 → (((0 : Int) ≤ v24_1.toInt ∧ v24_1.toInt < 1200) ∧ (((qI S8 78 v24_1.toInt.toNat).toInt = 132 → (((0 : Int) ≤ v24_1.toInt ∧ v24_1.toInt < 1200) ∧ (∀ S32, S32 = wI S8 81 v24_1.toInt.toNat (vp_nar .boolean (1 : Int32)) → Q (1 : Int32) S32))) ∧ (¬ (qI S8 78 v24_1.toInt.toNat).toInt = 132 → (((0 : Int) ≤ v24_1.toInt ∧ v24_1.toInt < 1200) ∧ (((qI S8 78 v24_1.toInt.toNat).toInt = 55 → w_dead_J95 Q S8 88 v24_1 v24_1) ∧ (¬ (qI S8 78 v24_1.toInt.toNat).toInt = 55 → w_dead_J95 Q S8 87 v24_1 v24_1))))))) ∧ (¬ (r7 &&& (f_bitsOf S8 (qI S8 78 v24_1.toInt.toNat) (qI S8 79 v24_1.toInt.toNat))).toInt = 0 → Q (0 : Int32) S8))))))
def w_dead (S : MS) (x1 : Int32) (Q : Int32 → MS → Prop) : Prop := (((0 : Int) ≤ x1.toInt ∧ x1.toInt < 1200) ∧ (d_isStore S (qI S 78 x1.toInt.toNat) ∧ (((f_isStore S (qI S 78 x1.toInt.toNat)).toInt = 0 → (((0 : Int) ≤ x1.toInt ∧ x1.toInt < 1200) ∧ (((qI S 78 x1.toInt.toNat).toInt = 132 → w_dead_J24 Q S x1) ∧ (¬ (qI S 78 x1.toInt.toNat).toInt = 132 → Q (0 : Int32) S)))) ∧ (¬ (f_isStore S (qI S 78 x1.toInt.toNat)).toInt = 0 → w_dead_J24 Q S x1))))
set_option maxHeartbeats 2000000 in
set_option maxRecDepth 100000 in
theorem r_dead (l : Launch) (g : Gr) (ad : Nat → Nat) (sz : Nat) (S : MS) (x1 : Int32) (hw : wfM S) (Q : Int32 → MS → Prop) (h : w_dead S x1 Q) : Met l yX14_dead (wt2 yX14_dead cX14_dead 2 (some .boolean)) ({ frames := 3, cells := 0, slots := 0, locals := 67 }) (va_Pc [.ref (ad 0), .int x1] (st_R g ad sz S)) (va_Qi (fun (r : Int32) (u : MS) => Q r u ∧ wfM u ∧ shy S u ∧ (r = 0 ∨ r = 1)) (fun (u : MS) (t : State) => qE g ad (va_A (Wd g ad S) sz) u t) (va_A (Wd g ad S) sz)) 0 0 (va_A (Wd g ad S) sz) := by
  refine Met.ofW (cc := cX14_dead) (maxL := 2) (ret := (some .boolean)) (by decide) rfl ?_
  intro p e s m args below meth c s₁ B hml hv
  obtain ⟨rfl, hsz, hP, hK, hD0, hex, hE⟩ := hv
  have hx := B.exec
  have hb := B.bytes
  have hr := B.returns
  have hts0 := atoms_spec (ws := wt2 yX14_dead cX14_dead 2 (some .boolean)) B.pre
  have hts : ∀ w ∈ tb2, w.before _ s = true := fun w h => hts0 w (List.mem_cons_of_mem _ h)
  have hown : s.vm.findClass RX14 = some m.cls := findClass_of_methodNamed B.named
  subst hsz
  have hD := hD0.self (sz := s.heap.size)
  generalize hAe : va_A (Wd g ad S) s.heap.size = A at hD hE ⊢
  have hA : ∀ q : Nat, s.heap.size ≤ q → A q := fun q h => by rw [← hAe]; exact Or.inr h
  have hR : Rep g ad A s S s.heap [] := ⟨hK, hP, hD, va_S.rf, hw⟩
  clear hK hP hD hD0
  have hl := lv_entry ([.ref (ad 0), .int x1]) (n := 2) (Nat.le_of_ble_eq_true rfl)
  rw [lg_entry_eq]
  generalize (lg_sl ([.ref (ad 0), .int x1]) ++ List.replicate (2 - (lg_sl ([.ref (ad 0), .int x1])).length) Slot.unset).toArray = ls at hl ⊢
  have hl : lv_has ls 2 [(0, .ref (ad 0)), (1, .int x1)] := hl
  have hsh : shy S S := shy.rf
  unfold w_dead at h
  refine lv_aload_n hx hb dX14_dead_0 rfl (lv_at hl 0 rfl) ?_
  refine va_get (D := rD g) (ci := 13) (v := .ref (ad 78)) (C := RX14) (T := TX14) (N := 143) hx hb hts in2X14 hown hR.K hR.P 0 (hR.at14 hR.w.1) rfl 125 (by decide) (hts _ kx_697) (fun _ h9 => h9) (congrArg (fun z => some (vf ad z)) (hR.w.2.1 _ fin_125).1) dX14_dead_1 ?_
  refine lv_iload_n hx hb dX14_dead_4 rfl (lv_at hl 1 rfl) ?_
  obtain ⟨hv1, h⟩ := h
  refine va_iald hx hb hR.K hR.P 78 1 (hR.atI (hR.w.2.1 _ fin_125).2.1) rfl (k_ixN (k_ix (n := 1200) (x := x1) (a := x1.toInt) rfl hv1) (hR.w.2.1 _ fin_125).2.2) dX14_dead_5 ?_
  refine lv_topi (fun z2 ez2 => ?_)
  obtain rfl : z2 = (qI S 78 x1.toInt.toNat) := ez2
  obtain ⟨hv3, h⟩ := h
  have hFc := rfree hR hA
  refine va_calli (va_runS (As := [.int (qI S 78 x1.toInt.toNat)]) (rest := []) ⟨hx, hb, hml, hown, hts⟩ (r_isStore l g ad s.heap.size S (qI S 78 x1.toInt.toNat) hR.w  hv3) (va_cwS 1 hts (gd2_S kx_789 kx_790 kx_177 kx_791) rfl rfl rfl (by decide +kernel) ⟨Nat.le_of_ble_eq_true rfl, Nat.le_of_ble_eq_true rfl⟩) ⟨rblind, fun U hU hW9 => rmk hU hW9 hR hex hE hFc⟩ rfl rfl hl.1 rfl (lv_room (Nat.le_of_ble_eq_true rfl)) dX14_dead_6 ⟨Nat.le_of_ble_eq_true rfl, Nat.le_of_ble_eq_true rfl⟩) hR.sS (fun q _ h => hFc q h) hFc (fun r4 u9 t9 H1 locs ht9 hvm9 hw9 hB9 hz9 hk9 hS => ?_)
  have hR : Rep g ad A s S H1 locs := hR.call ht9 hB9 hR.w hS hFc
  obtain ⟨rfl, hz_r4⟩ := hw9
  clear hB9 hz9 hk9 hvm9 ht9 hS
  generalize H1 = H at hR ⊢
  have J_24 : ∀ (U24 : MS) (v24_1 : Int32) (H : Heap) (locs : List Loc) (ls : Array Slot), w_dead_J24 Q U24 v24_1 → shy S U24 → Rep g ad A s U24 H locs → lv_has ls 2 [(0, .ref (ad 0)), (1, .int v24_1)] → W p l e (headSpec (wt2 yX14_dead cX14_dead 2 (some .boolean)) ({ frames := 3, cells := 0, slots := 0, locals := 67 })).room s m ([.ref (ad 0), .int x1] : List Value).toArray below meth c H locs 0 0 (MQ below (va_Qi (fun (r : Int32) (u : MS) => Q r u ∧ wfM u ∧ shy S u ∧ (r = 0 ∨ r = 1)) (fun (u : MS) (t : State) => qE g ad A u t) A) ([.ref (ad 0), .int x1] : List Value).toArray s 0 0 A) (F0 m 24 ls []) := by
    intro U24 v24_1 H locs ls h hsh hR hl
    unfold w_dead_J24 at h
    refine lv_aload_n hx hb dX14_dead_24 rfl (lv_at hl 0 rfl) ?_
    refine lv_iload_n hx hb dX14_dead_25 rfl (lv_at hl 1 rfl) ?_
    obtain ⟨Q6, h0, h⟩ := h
    have hFc := rfree hR hA
    refine va_calli (va_runV (As := [.int v24_1]) (rest := []) ⟨hx, hb, hml, hown, hts⟩ (r_liveBehind l g ad H.size U24 v24_1 hR.w  Q6 h0) (cwV 1 hts (gd2_V kx_785 kx_786 kx_787 kx_177 kx_788) rfl rfl rfl (by decide +kernel) ⟨Nat.le_of_ble_eq_true rfl, Nat.le_of_ble_eq_true rfl⟩) ⟨rblind, va_recv hR.K hR.P (ci := 13) (q0 := 0) rfl (hR.at14 hR.w.1), fun U hU hW9 => rmk hU hW9 hR hex hE hFc⟩ rfl rfl hl.1 rfl (lv_room (Nat.le_of_ble_eq_true rfl)) dX14_dead_26 ⟨Nat.le_of_ble_eq_true rfl, Nat.le_of_ble_eq_true rfl⟩) hR.sS (fun q _ h => hFc q h) hFc (fun r7 S8 t9 H1 locs ht9 hvm9 hw9 hB9 hz9 hk9 hS => ?_)
    obtain ⟨hq9, hw9, hs9⟩ := hw9
    have hR : Rep g ad A s S8 H1 locs := hR.call ht9 hB9 hw9 hS hFc
    have hsh := hsh.tr hs9
    replace h := h r7 S8 hq9
    clear hB9 hz9 hk9 hvm9 ht9 hw9 hs9 hS
    generalize H1 = H at hR ⊢
    refine lv_aload_n hx hb dX14_dead_29 rfl (lv_at hl 0 rfl) ?_
    refine va_get (D := rD g) (ci := 13) (v := .ref (ad 78)) (C := RX14) (T := TX14) (N := 143) hx hb hts in2X14 hown hR.K hR.P 0 (hR.at14 hR.w.1) rfl 125 (by decide) (hts _ kx_697) (fun _ h9 => h9) (congrArg (fun z => some (vf ad z)) (hR.w.2.1 _ fin_125).1) dX14_dead_30 ?_
    refine lv_iload_n hx hb dX14_dead_33 rfl (lv_at hl 1 rfl) ?_
    obtain ⟨hv10, h⟩ := h
    refine va_iald hx hb hR.K hR.P 78 1 (hR.atI (hR.w.2.1 _ fin_125).2.1) rfl (k_ixN (k_ix (n := 1200) (x := v24_1) (a := v24_1.toInt) rfl hv10) (hR.w.2.1 _ fin_125).2.2) dX14_dead_34 ?_
    refine lv_topi (fun z11 ez11 => ?_)
    obtain rfl : z11 = (qI S8 78 v24_1.toInt.toNat) := ez11
    refine lv_aload_n hx hb dX14_dead_35 rfl (lv_at hl 0 rfl) ?_
    refine va_get (D := rD g) (ci := 13) (v := .ref (ad 79)) (C := RX14) (T := TX14) (N := 143) hx hb hts in2X14 hown hR.K hR.P 0 (hR.at14 hR.w.1) rfl 126 (by decide) (hts _ kx_700) (fun _ h9 => h9) (congrArg (fun z => some (vf ad z)) (hR.w.2.1 _ fin_126).1) dX14_dead_36 ?_
    refine lv_iload_n hx hb dX14_dead_39 rfl (lv_at hl 1 rfl) ?_
    obtain ⟨hv12, h⟩ := h
    refine va_iald hx hb hR.K hR.P 79 1 (hR.atI (hR.w.2.1 _ fin_126).2.1) rfl (k_ixN (k_ix (n := 1200) (x := v24_1) (a := v24_1.toInt) rfl hv12) (hR.w.2.1 _ fin_126).2.2) dX14_dead_40 ?_
    refine lv_topi (fun z13 ez13 => ?_)
    obtain rfl : z13 = (qI S8 79 v24_1.toInt.toNat) := ez13
    obtain ⟨hv14, h⟩ := h
    have hFc := rfree hR hA
    refine va_calli (va_runS (As := [.int (qI S8 78 v24_1.toInt.toNat), .int (qI S8 79 v24_1.toInt.toNat)]) (rest := [.int r7]) ⟨hx, hb, hml, hown, hts⟩ (r_bitsOf l g ad H.size S8 (qI S8 78 v24_1.toInt.toNat) (qI S8 79 v24_1.toInt.toNat) hR.w  hv14) (va_cwS 2 hts (gd2_S kx_795 kx_796 kx_177 kx_797) rfl rfl rfl (by decide +kernel) ⟨Nat.le_of_ble_eq_true rfl, Nat.le_of_ble_eq_true rfl⟩) ⟨rblind, fun U hU hW9 => rmk hU hW9 hR hex hE hFc⟩ rfl rfl hl.1 rfl (lv_room (Nat.le_of_ble_eq_true rfl)) dX14_dead_41 ⟨Nat.le_of_ble_eq_true rfl, Nat.le_of_ble_eq_true rfl⟩) hR.sS (fun q _ h => hFc q h) hFc (fun r15 u9 t9 H1 locs ht9 hvm9 hw9 hB9 hz9 hk9 hS => ?_)
    have hR : Rep g ad A s S8 H1 locs := hR.call ht9 hB9 hR.w hS hFc
    obtain rfl : r15 = (f_bitsOf S8 (qI S8 78 v24_1.toInt.toNat) (qI S8 79 v24_1.toInt.toNat)) := hw9
    clear hB9 hz9 hk9 hvm9 ht9 hS
    generalize H1 = H at hR ⊢
    refine lv_iand hx hb dX14_dead_44 ?_
    refine lv_topi (fun z17 ez17 => ?_)
    obtain rfl : z17 = (r7 &&& (f_bitsOf S8 (qI S8 78 v24_1.toInt.toNat) (qI S8 79 v24_1.toInt.toNat))) := ez17
    refine lv_if_eq (tgt := 50) hx hb dX14_dead_45 (by decide) (fun c18 => ?_) (fun c18 => ?_)
    · replace h := h.1 (k_eq rfl (by decide) c18)
      refine lv_aload_n hx hb dX14_dead_50 rfl (lv_at hl 0 rfl) ?_
      refine va_get (D := rD g) (ci := 13) (v := .ref (ad 78)) (C := RX14) (T := TX14) (N := 143) hx hb hts in2X14 hown hR.K hR.P 0 (hR.at14 hR.w.1) rfl 125 (by decide) (hts _ kx_697) (fun _ h9 => h9) (congrArg (fun z => some (vf ad z)) (hR.w.2.1 _ fin_125).1) dX14_dead_51 ?_
      refine lv_iload_n hx hb dX14_dead_54 rfl (lv_at hl 1 rfl) ?_
      obtain ⟨hv19, h⟩ := h
      refine va_iald hx hb hR.K hR.P 78 1 (hR.atI (hR.w.2.1 _ fin_125).2.1) rfl (k_ixN (k_ix (n := 1200) (x := v24_1) (a := v24_1.toInt) rfl hv19) (hR.w.2.1 _ fin_125).2.2) dX14_dead_55 ?_
      refine lv_topi (fun z20 ez20 => ?_)
      obtain rfl : z20 = (qI S8 78 v24_1.toInt.toNat) := ez20
      refine lv_sipush (v := 132) hx hb dX14_dead_56 (by decide) ?_
      refine lv_icmp_ne (tgt := 72) hx hb dX14_dead_59 (by decide) (fun c21 => ?_) (fun c21 => ?_)
      · replace h := h.2 (k_ne rfl (by decide) c21)
        refine lv_aload_n hx hb dX14_dead_72 rfl (lv_at hl 0 rfl) ?_
        refine va_get (D := rD g) (ci := 13) (v := .ref (ad 78)) (C := RX14) (T := TX14) (N := 143) hx hb hts in2X14 hown hR.K hR.P 0 (hR.at14 hR.w.1) rfl 125 (by decide) (hts _ kx_697) (fun _ h9 => h9) (congrArg (fun z => some (vf ad z)) (hR.w.2.1 _ fin_125).1) dX14_dead_73 ?_
        refine lv_iload_n hx hb dX14_dead_76 rfl (lv_at hl 1 rfl) ?_
        refine lv_aload_n hx hb dX14_dead_77 rfl (lv_at hl 0 rfl) ?_
        refine va_get (D := rD g) (ci := 13) (v := .ref (ad 78)) (C := RX14) (T := TX14) (N := 143) hx hb hts in2X14 hown hR.K hR.P 0 (hR.at14 hR.w.1) rfl 125 (by decide) (hts _ kx_697) (fun _ h9 => h9) (congrArg (fun z => some (vf ad z)) (hR.w.2.1 _ fin_125).1) dX14_dead_78 ?_
        refine lv_iload_n hx hb dX14_dead_81 rfl (lv_at hl 1 rfl) ?_
        obtain ⟨hv22, h⟩ := h
        refine va_iald hx hb hR.K hR.P 78 1 (hR.atI (hR.w.2.1 _ fin_125).2.1) rfl (k_ixN (k_ix (n := 1200) (x := v24_1) (a := v24_1.toInt) rfl hv22) (hR.w.2.1 _ fin_125).2.2) dX14_dead_82 ?_
        refine lv_topi (fun z23 ez23 => ?_)
        obtain rfl : z23 = (qI S8 78 v24_1.toInt.toNat) := ez23
        refine lv_bipush (v := 55) hx hb dX14_dead_83 (by decide) ?_
        have J_95 : ∀ (U95 : MS) (t95_0 : Int32) (t95_1 : Int32) (v95_1 : Int32) (H : Heap) (locs : List Loc) (ls : Array Slot), w_dead_J95 Q U95 t95_0 t95_1 v95_1 → shy S U95 → Rep g ad A s U95 H locs → lv_has ls 2 [(0, .ref (ad 0)), (1, .int v95_1)] → W p l e (headSpec (wt2 yX14_dead cX14_dead 2 (some .boolean)) ({ frames := 3, cells := 0, slots := 0, locals := 67 })).room s m ([.ref (ad 0), .int x1] : List Value).toArray below meth c H locs 0 0 (MQ below (va_Qi (fun (r : Int32) (u : MS) => Q r u ∧ wfM u ∧ shy S u ∧ (r = 0 ∨ r = 1)) (fun (u : MS) (t : State) => qE g ad A u t) A) ([.ref (ad 0), .int x1] : List Value).toArray s 0 0 A) (F0 m 95 ls [.int t95_0, .int t95_1, .ref (ad 78)]) := by
          intro U95 t95_0 t95_1 v95_1 H locs ls h hsh hR hl
          unfold w_dead_J95 at h
          obtain ⟨hv24, h⟩ := h
          refine va_iast hx hb hR.K hR.P hR.D hR.sS 78 1 (hR.atI (hR.w.2.1 _ fin_125).2.1) rfl (k_ixN (k_ix (n := 1200) (x := t95_1) (a := t95_1.toInt) rfl hv24) (hR.w.2.1 _ fin_125).2.2) dX14_dead_95 (fun H locs hP hD hS => ?_)
          have hR : Rep g ad A s (wI U95 78 t95_1.toInt.toNat t95_0) H locs := hR.aI (hR.w.2.1 _ fin_125).2.1 hP hD hS
          obtain ⟨S25, eS25⟩ : ∃ z, z = wI U95 78 t95_1.toInt.toNat t95_0 := ⟨_, rfl⟩
          rw [← eS25] at hR
          replace h := h S25 eS25
          have hsh : shy S S25 := by rw [eS25]; exact hsh
          refine lv_aload_n hx hb dX14_dead_96 rfl (lv_at hl 0 rfl) ?_
          refine va_get (D := rD g) (ci := 13) (v := .ref (ad 79)) (C := RX14) (T := TX14) (N := 143) hx hb hts in2X14 hown hR.K hR.P 0 (hR.at14 hR.w.1) rfl 126 (by decide) (hts _ kx_700) (fun _ h9 => h9) (congrArg (fun z => some (vf ad z)) (hR.w.2.1 _ fin_126).1) dX14_dead_97 ?_
          refine lv_iload_n hx hb dX14_dead_100 rfl (lv_at hl 1 rfl) ?_
          refine lv_iconst (v := 0) hx hb dX14_dead_101 (by decide) ?_
          obtain ⟨hv26, h⟩ := h
          refine va_iast hx hb hR.K hR.P hR.D hR.sS 79 1 (hR.atI (hR.w.2.1 _ fin_126).2.1) rfl (k_ixN (k_ix (n := 1200) (x := v95_1) (a := v95_1.toInt) rfl hv26) (hR.w.2.1 _ fin_126).2.2) dX14_dead_102 (fun H locs hP hD hS => ?_)
          have hR : Rep g ad A s (wI S25 79 v95_1.toInt.toNat (0 : Int32)) H locs := hR.aI (hR.w.2.1 _ fin_126).2.1 hP hD hS
          obtain ⟨S27, eS27⟩ : ∃ z, z = wI S25 79 v95_1.toInt.toNat (0 : Int32) := ⟨_, rfl⟩
          rw [← eS27] at hR
          replace h := h S27 eS27
          have hsh : shy S S27 := by rw [eS27]; exact hsh
          refine lv_aload_n hx hb dX14_dead_103 rfl (lv_at hl 0 rfl) ?_
          refine va_get (D := rD g) (ci := 13) (v := .ref (ad 80)) (C := RX14) (T := TX14) (N := 143) hx hb hts in2X14 hown hR.K hR.P 0 (hR.at14 hR.w.1) rfl 127 (by decide) (hts _ kx_698) (fun _ h9 => h9) (congrArg (fun z => some (vf ad z)) (hR.w.2.1 _ fin_127).1) dX14_dead_104 ?_
          refine lv_iload_n hx hb dX14_dead_107 rfl (lv_at hl 1 rfl) ?_
          refine lv_iconst (v := 0) hx hb dX14_dead_108 (by decide) ?_
          obtain ⟨hv28, h⟩ := h
          refine va_iast hx hb hR.K hR.P hR.D hR.sS 80 1 (hR.atI (hR.w.2.1 _ fin_127).2.1) rfl (k_ixN (k_ix (n := 1200) (x := v95_1) (a := v95_1.toInt) rfl hv28) (hR.w.2.1 _ fin_127).2.2) dX14_dead_109 (fun H locs hP hD hS => ?_)
          have hR : Rep g ad A s (wI S27 80 v95_1.toInt.toNat (0 : Int32)) H locs := hR.aI (hR.w.2.1 _ fin_127).2.1 hP hD hS
          obtain ⟨S29, eS29⟩ : ∃ z, z = wI S27 80 v95_1.toInt.toNat (0 : Int32) := ⟨_, rfl⟩
          rw [← eS29] at hR
          replace h := h S29 eS29
          have hsh : shy S S29 := by rw [eS29]; exact hsh
          refine lv_iconst (v := 1) hx hb dX14_dead_110 (by decide) ?_
          exact W.zret (v := 1) hx hb hr (nz (Or.inr rfl)) (fun t9 ht9 hW9 => ⟨⟨_, S29, rfl, ⟨h, hR.w, hsh, (Or.inr rfl)⟩, ⟨by rw [ht9]; exact hR.P, hR.D⟩⟩, hR.sS.F ht9⟩) hR.sS.2.2 dX14_dead_111
        refine lv_icmp_ne (tgt := 93) hx hb dX14_dead_85 (by decide) (fun c30 => ?_) (fun c30 => ?_)
        · replace h := h.2 (k_ne rfl (by decide) c30)
          refine lv_bipush (v := 87) hx hb dX14_dead_93 (by decide) ?_
          exact J_95 S8 87 v24_1 v24_1 _ _ ls h  hsh hR (lv_sub hl [0, 1] rfl)
        · replace h := h.1 (k_eq rfl (by decide) c30)
          refine lv_bipush (v := 88) hx hb dX14_dead_88 (by decide) ?_
          refine lv_goto (tgt := 95) hx hb dX14_dead_90 (by decide) ?_
          exact J_95 S8 88 v24_1 v24_1 _ _ ls h  hsh hR (lv_sub hl [0, 1] rfl)
      · replace h := h.1 (k_eq rfl (by decide) c21)
        refine lv_aload_n hx hb dX14_dead_62 rfl (lv_at hl 0 rfl) ?_
        refine va_get (D := rD g) (ci := 13) (v := .ref (ad 81)) (C := RX14) (T := TX14) (N := 143) hx hb hts in2X14 hown hR.K hR.P 0 (hR.at14 hR.w.1) rfl 128 (by decide) (hts _ kx_692) (fun _ h9 => h9) (congrArg (fun z => some (vf ad z)) (hR.w.2.1 _ fin_128).1) dX14_dead_63 ?_
        refine lv_iload_n hx hb dX14_dead_66 rfl (lv_at hl 1 rfl) ?_
        refine lv_iconst (v := 1) hx hb dX14_dead_67 (by decide) ?_
        obtain ⟨hv31, h⟩ := h
        refine va_zast hx hb hR.K hR.P hR.D hR.sS 81 2 (hR.atZ (hR.w.2.1 _ fin_128).2.1) rfl (k_ixN (k_ix (n := 1200) (x := v24_1) (a := v24_1.toInt) rfl hv31) (hR.w.2.1 _ fin_128).2.2) dX14_dead_68 (fun H locs hP hD hS => ?_)
        have hR : Rep g ad A s (wI S8 81 v24_1.toInt.toNat (vp_nar .boolean (1 : Int32))) H locs := hR.aZ (hR.w.2.1 _ fin_128).2.1 hP hD hS
        obtain ⟨S32, eS32⟩ : ∃ z, z = wI S8 81 v24_1.toInt.toNat (vp_nar .boolean (1 : Int32)) := ⟨_, rfl⟩
        rw [← eS32] at hR
        replace h := h S32 eS32
        have hsh : shy S S32 := by rw [eS32]; exact hsh
        refine lv_goto (tgt := 110) hx hb dX14_dead_69 (by decide) ?_
        refine lv_iconst (v := 1) hx hb dX14_dead_110 (by decide) ?_
        exact W.zret (v := 1) hx hb hr (nz (Or.inr rfl)) (fun t9 ht9 hW9 => ⟨⟨_, S32, rfl, ⟨h, hR.w, hsh, (Or.inr rfl)⟩, ⟨by rw [ht9]; exact hR.P, hR.D⟩⟩, hR.sS.F ht9⟩) hR.sS.2.2 dX14_dead_111
    · replace h := h.2 (k_ne rfl (by decide) c18)
      refine lv_iconst (v := 0) hx hb dX14_dead_48 (by decide) ?_
      exact W.zret (v := 0) hx hb hr (nz (Or.inl rfl)) (fun t9 ht9 hW9 => ⟨⟨_, S8, rfl, ⟨h, hR.w, hsh, (Or.inl rfl)⟩, ⟨by rw [ht9]; exact hR.P, hR.D⟩⟩, hR.sS.F ht9⟩) hR.sS.2.2 dX14_dead_49
  refine lv_if_ne (tgt := 24) hx hb dX14_dead_9 (by decide) (fun c33 => ?_) (fun c33 => ?_)
  · replace h := h.2 (k_ne rfl (by decide) c33)
    exact J_24 S x1 _ _ ls h  hsh hR (lv_sub hl [0, 1] rfl)
  · replace h := h.1 (k_eq rfl (by decide) c33)
    refine lv_aload_n hx hb dX14_dead_12 rfl (lv_at hl 0 rfl) ?_
    refine va_get (D := rD g) (ci := 13) (v := .ref (ad 78)) (C := RX14) (T := TX14) (N := 143) hx hb hts in2X14 hown hR.K hR.P 0 (hR.at14 hR.w.1) rfl 125 (by decide) (hts _ kx_697) (fun _ h9 => h9) (congrArg (fun z => some (vf ad z)) (hR.w.2.1 _ fin_125).1) dX14_dead_13 ?_
    refine lv_iload_n hx hb dX14_dead_16 rfl (lv_at hl 1 rfl) ?_
    obtain ⟨hv34, h⟩ := h
    refine va_iald hx hb hR.K hR.P 78 1 (hR.atI (hR.w.2.1 _ fin_125).2.1) rfl (k_ixN (k_ix (n := 1200) (x := x1) (a := x1.toInt) rfl hv34) (hR.w.2.1 _ fin_125).2.2) dX14_dead_17 ?_
    refine lv_topi (fun z35 ez35 => ?_)
    obtain rfl : z35 = (qI S 78 x1.toInt.toNat) := ez35
    refine lv_sipush (v := 132) hx hb dX14_dead_18 (by decide) ?_
    refine lv_icmp_ne (tgt := 48) hx hb dX14_dead_21 (by decide) (fun c36 => ?_) (fun c36 => ?_)
    · replace h := h.2 (k_ne rfl (by decide) c36)
      refine lv_iconst (v := 0) hx hb dX14_dead_48 (by decide) ?_
      exact W.zret (v := 0) hx hb hr (nz (Or.inl rfl)) (fun t9 ht9 hW9 => ⟨⟨_, S, rfl, ⟨h, hR.w, hsh, (Or.inl rfl)⟩, ⟨by rw [ht9]; exact hR.P, hR.D⟩⟩, hR.sS.F ht9⟩) hR.sS.2.2 dX14_dead_49
    · replace h := h.1 (k_eq rfl (by decide) c36)
      exact J_24 S x1 _ _ ls h  hsh hR (lv_sub hl [0, 1] rfl)
def w_copyHead_L183 (Q : MS → Prop) : Nat → MS → Nat → Int32 → Prop
  | 0, _, _, _ => False
  | n183 + 1, U183, v183_1, v183_2 => ((qR U183 v183_1 19 = some (qO U183 v183_1 19)) ∧ (((Int32.ofNat (qN U183 (qO U183 v183_1 19))).toInt ≤ v183_2.toInt → (∀ S14, S14 = wR U183 60 18 (some 74) → (∀ S15, S15 = wR S14 60 19 (some 75) → (∀ S16, S16 = wR S15 60 20 (some 76) → (∀ S17, S17 = wI S16 0 122 0 → (∀ S18, S18 = wI S17 0 123 0 → Q S18)))))) ∧ (¬ (Int32.ofNat (qN U183 (qO U183 v183_1 19))).toInt ≤ v183_2.toInt → ((qR U183 v183_1 19 = some (qO U183 v183_1 19)) ∧ (((0 : Int) ≤ v183_2.toInt ∧ v183_2.toInt < (qN U183 (qO U183 v183_1 19) : Int)) ∧ (((0 : Int) ≤ v183_2.toInt ∧ v183_2.toInt < 40000) ∧ (∀ S24, S24 = wI U183 75 v183_2.toInt.toNat (qI U183 (qO U183 v183_1 19) v183_2.toInt.toNat) → (∀ a25 : Int32, a25 = (v183_2 + Int32.ofInt 1) → (w_copyHead_L183 Q n183) S24 v183_1 a25))))))))
def w_copyHead_L107 (Q : MS → Prop) : Nat → MS → Nat → Int32 → Prop
  | 0, _, _, _ => False
  | n107 + 1, U107, v107_1, v107_2 => (((qI U107 v107_1 4).toInt ≤ v107_2.toInt → (∃ n, w_copyHead_L183 Q n U107 v107_1 0)) ∧ (¬ (qI U107 v107_1 4).toInt ≤ v107_2.toInt → ((qR U107 60 8 = some (qO U107 60 8)) ∧ ((qR U107 v107_1 8 = some (qO U107 v107_1 8)) ∧ (((0 : Int) ≤ v107_2.toInt ∧ v107_2.toInt < (qN U107 (qO U107 v107_1 8) : Int)) ∧ ((qR U107 (qO U107 v107_1 8) v107_2.toInt.toNat = some (qO U107 (qO U107 v107_1 8) v107_2.toInt.toNat)) ∧ (((0 : Int) ≤ v107_2.toInt ∧ v107_2.toInt < (qN U107 (qO U107 60 8) : Int)) ∧ (∀ S34, S34 = wR U107 (qO U107 60 8) v107_2.toInt.toNat (some (qO U107 (qO U107 v107_1 8) v107_2.toInt.toNat)) → ((qR S34 60 9 = some (qO S34 60 9)) ∧ ((qR S34 v107_1 9 = some (qO S34 v107_1 9)) ∧ (((0 : Int) ≤ v107_2.toInt ∧ v107_2.toInt < (qN S34 (qO S34 v107_1 9) : Int)) ∧ ((qR S34 (qO S34 v107_1 9) v107_2.toInt.toNat = some (qO S34 (qO S34 v107_1 9) v107_2.toInt.toNat)) ∧ (((0 : Int) ≤ v107_2.toInt ∧ v107_2.toInt < (qN S34 (qO S34 60 9) : Int)) ∧ (∀ S43, S43 = wR S34 (qO S34 60 9) v107_2.toInt.toNat (some (qO S34 (qO S34 v107_1 9) v107_2.toInt.toNat)) → ((qR S43 60 10 = some (qO S43 60 10)) ∧ ((qR S43 v107_1 10 = some (qO S43 v107_1 10)) ∧ (((0 : Int) ≤ v107_2.toInt ∧ v107_2.toInt < (qN S43 (qO S43 v107_1 10) : Int)) ∧ ((qR S43 (qO S43 v107_1 10) v107_2.toInt.toNat = some (qO S43 (qO S43 v107_1 10) v107_2.toInt.toNat)) ∧ (((0 : Int) ≤ v107_2.toInt ∧ v107_2.toInt < (qN S43 (qO S43 60 10) : Int)) ∧ (∀ S52, S52 = wR S43 (qO S43 60 10) v107_2.toInt.toNat (some (qO S43 (qO S43 v107_1 10) v107_2.toInt.toNat)) → ((qR S52 60 11 = some (qO S52 60 11)) ∧ ((qR S52 v107_1 11 = some (qO S52 v107_1 11)) ∧ (((0 : Int) ≤ v107_2.toInt ∧ v107_2.toInt < (qN S52 (qO S52 v107_1 11) : Int)) ∧ ((qR S52 (qO S52 v107_1 11) v107_2.toInt.toNat = some (qO S52 (qO S52 v107_1 11) v107_2.toInt.toNat)) ∧ (((0 : Int) ≤ v107_2.toInt ∧ v107_2.toInt < (qN S52 (qO S52 60 11) : Int)) ∧ (∀ S61, S61 = wR S52 (qO S52 60 11) v107_2.toInt.toNat (some (qO S52 (qO S52 v107_1 11) v107_2.toInt.toNat)) → (∀ a62 : Int32, a62 = (v107_2 + Int32.ofInt 1) → (w_copyHead_L107 Q n107) S61 v107_1 a62)))))))))))))))))))))))))))
def w_copyHead_L46 (Q : MS → Prop) : Nat → MS → Nat → Int32 → Prop
  | 0, _, _, _ => False
  | n46 + 1, U46, v46_1, v46_2 => (((qI U46 v46_1 3).toInt ≤ v46_2.toInt → (∃ n, w_copyHead_L107 Q n U46 v46_1 0)) ∧ (¬ (qI U46 v46_1 3).toInt ≤ v46_2.toInt → ((qR U46 60 5 = some (qO U46 60 5)) ∧ ((qR U46 v46_1 5 = some (qO U46 v46_1 5)) ∧ (((0 : Int) ≤ v46_2.toInt ∧ v46_2.toInt < (qN U46 (qO U46 v46_1 5) : Int)) ∧ ((qR U46 (qO U46 v46_1 5) v46_2.toInt.toNat = some (qO U46 (qO U46 v46_1 5) v46_2.toInt.toNat)) ∧ (((0 : Int) ≤ v46_2.toInt ∧ v46_2.toInt < (qN U46 (qO U46 60 5) : Int)) ∧ (∀ S71, S71 = wR U46 (qO U46 60 5) v46_2.toInt.toNat (some (qO U46 (qO U46 v46_1 5) v46_2.toInt.toNat)) → ((qR S71 60 6 = some (qO S71 60 6)) ∧ ((qR S71 v46_1 6 = some (qO S71 v46_1 6)) ∧ (((0 : Int) ≤ v46_2.toInt ∧ v46_2.toInt < (qN S71 (qO S71 v46_1 6) : Int)) ∧ ((qR S71 (qO S71 v46_1 6) v46_2.toInt.toNat = some (qO S71 (qO S71 v46_1 6) v46_2.toInt.toNat)) ∧ (((0 : Int) ≤ v46_2.toInt ∧ v46_2.toInt < (qN S71 (qO S71 60 6) : Int)) ∧ (∀ S80, S80 = wR S71 (qO S71 60 6) v46_2.toInt.toNat (some (qO S71 (qO S71 v46_1 6) v46_2.toInt.toNat)) → ((qR S80 60 7 = some (qO S80 60 7)) ∧ ((qR S80 v46_1 7 = some (qO S80 v46_1 7)) ∧ (((0 : Int) ≤ v46_2.toInt ∧ v46_2.toInt < (qN S80 (qO S80 v46_1 7) : Int)) ∧ ((qR S80 (qO S80 v46_1 7) v46_2.toInt.toNat = some (qO S80 (qO S80 v46_1 7) v46_2.toInt.toNat)) ∧ (((0 : Int) ≤ v46_2.toInt ∧ v46_2.toInt < (qN S80 (qO S80 60 7) : Int)) ∧ (∀ S89, S89 = wR S80 (qO S80 60 7) v46_2.toInt.toNat (some (qO S80 (qO S80 v46_1 7) v46_2.toInt.toNat)) → (∀ a90 : Int32, a90 = (v46_2 + Int32.ofInt 1) → (w_copyHead_L46 Q n46) S89 v46_1 a90)))))))))))))))))))))
def w_copyHead (S : MS) (p1 : Nat) (Q : MS → Prop) : Prop := ((qR S p1 0 = some (qO S p1 0)) ∧ (∀ S3, S3 = wR S 60 0 (some (qO S p1 0)) → ((qR S3 p1 1 = some (qO S3 p1 1)) ∧ (∀ S6, S6 = wR S3 60 1 (some (qO S3 p1 1)) → (∀ S7, S7 = wI S6 60 3 (qI S6 p1 3) → (∀ S8, S8 = wI S7 60 4 (qI S7 p1 4) → (∃ n, w_copyHead_L46 Q n S8 p1 0)))))))
set_option maxHeartbeats 2000000 in
set_option maxRecDepth 100000 in
theorem r_copyHead (l : Launch) (g : Gr) (ad : Nat → Nat) (sz : Nat) (S : MS) (p1 : Nat) (hw : wfM S) (hT_p1 : qT S p1 = 11) (Q : MS → Prop) (h : w_copyHead S p1 Q) : Met l yX14_copyHead (wt2 yX14_copyHead cX14_copyHead 3 none) ({ frames := 0, cells := 0, slots := 0, locals := 0 }) (va_Pc [.ref (ad 0), .ref (ad p1)] (st_R g ad sz S)) (va_Qv (fun (u : MS) => Q u ∧ wfM u ∧ shy S u) (fun (u : MS) (t : State) => qE g ad (va_A (Wd g ad S) sz) u t) (va_A (Wd g ad S) sz)) 0 0 (va_A (Wd g ad S) sz) := by
  refine Met.ofW (cc := cX14_copyHead) (maxL := 3) (ret := none) (by decide) rfl ?_
  intro p e s m args below meth c s₁ B hml hv
  obtain ⟨rfl, hsz, hP, hK, hD0, hex, hE⟩ := hv
  have hx := B.exec
  have hb := B.bytes
  have hr := B.returns
  have hts0 := atoms_spec (ws := wt2 yX14_copyHead cX14_copyHead 3 none) B.pre
  have hts : ∀ w ∈ tb2, w.before _ s = true := fun w h => hts0 w (List.mem_cons_of_mem _ h)
  have hown : s.vm.findClass RX14 = some m.cls := findClass_of_methodNamed B.named
  subst hsz
  have hD := hD0.self (sz := s.heap.size)
  generalize hAe : va_A (Wd g ad S) s.heap.size = A at hD hE ⊢
  have hA : ∀ q : Nat, s.heap.size ≤ q → A q := fun q h => by rw [← hAe]; exact Or.inr h
  have hR : Rep g ad A s S s.heap [] := ⟨hK, hP, hD, va_S.rf, hw⟩
  clear hK hP hD hD0
  have hl := lv_entry ([.ref (ad 0), .ref (ad p1)]) (n := 3) (Nat.le_of_ble_eq_true rfl)
  rw [lg_entry_eq]
  generalize (lg_sl ([.ref (ad 0), .ref (ad p1)]) ++ List.replicate (3 - (lg_sl ([.ref (ad 0), .ref (ad p1)])).length) Slot.unset).toArray = ls at hl ⊢
  have hl : lv_has ls 3 [(0, .ref (ad 0)), (1, .ref (ad p1))] := hl
  have hsh : shy S S := shy.rf
  unfold w_copyHead at h
  refine lv_aload_n hx hb dX14_copyHead_0 rfl (lv_at hl 0 rfl) ?_
  refine va_get (D := rD g) (ci := 13) (v := .ref (ad 60)) (C := RX14) (T := TX14) (N := 143) hx hb hts in2X14 hown hR.K hR.P 0 (hR.at14 hR.w.1) rfl 118 (by decide) (hts _ kx_802) (fun _ h9 => h9) (congrArg (fun z => some (vf ad z)) (hR.w.2.1 _ fin_118).1) dX14_copyHead_1 ?_
  refine lv_aload_n hx hb dX14_copyHead_4 rfl (lv_at hl 1 rfl) ?_
  obtain ⟨hv1, h⟩ := h
  have hT_b2 : qT S (qO S p1 0) = 12 := hR.w.ref hv1 hT_p1
  refine va_get (D := rD g) (ci := 12) (v := .ref (ad (qO S p1 0))) (C := RX13) (T := TX13) (N := 23) hx hb hts in2X13 hown hR.K hR.P p1 (hR.at13 hT_p1) rfl 0 (by decide) (hts _ kx_551) (fun _ h9 => h9) (congrArg (fun z => some (vf ad z)) hv1) dX14_copyHead_5 ?_
  refine va_put (D := rD g) (ci := 12) (v := .ref (ad (qO S p1 0))) (ty := (.object "java/lang/String")) (C := RX13) (T := TX13) (N := 23) hx hb hts in2X13 tyX13 tyX13_ok nmX13 hown hR.K hR.P hR.D hR.sS 60 (hR.at13 (hR.w.2.1 _ fin_118).2.1) rfl 0 (by decide) (hts _ kx_551) (fun _ h9 => h9) rfl (by decide +kernel) rfl rfl (Nat.le_of_ble_eq_true rfl) dX14_copyHead_8 (fun H locs hP hD hS => ?_)
  have hw9 : wfM (wR S 60 0 (some (qO S p1 0))) := hR.w.put (fun b q9 => by cases q9; exact (hT_b2).trans (by rw [(hR.w.2.1 _ fin_118).2.1]; rfl)) (fun q9 => absurd ((congrArg (qT S) q9).symm.trans (hR.w.2.1 _ fin_118).2.1) (by rw [hR.w.1]; decide)) (by rw [(hR.w.2.1 _ fin_118).2.1]; decide)
  have hR : Rep g ad A s (wR S 60 0 (some (qO S p1 0))) H locs := hR.pR3 (hR.w.2.1 _ fin_118).2.1 F13_s0 hw9 hP hD hS
  obtain ⟨S3, eS3⟩ : ∃ z, z = wR S 60 0 (some (qO S p1 0)) := ⟨_, rfl⟩
  rw [← eS3] at hR
  replace h := h S3 eS3
  have hT_p1 : qT S3 p1 = 11 := (congrArg (fun z => qT z p1) eS3).trans hT_p1
  have hsh : shy S S3 := by rw [eS3]; exact hsh
  refine lv_aload_n hx hb dX14_copyHead_11 rfl (lv_at hl 0 rfl) ?_
  refine va_get (D := rD g) (ci := 13) (v := .ref (ad 60)) (C := RX14) (T := TX14) (N := 143) hx hb hts in2X14 hown hR.K hR.P 0 (hR.at14 hR.w.1) rfl 118 (by decide) (hts _ kx_802) (fun _ h9 => h9) (congrArg (fun z => some (vf ad z)) (hR.w.2.1 _ fin_118).1) dX14_copyHead_12 ?_
  refine lv_aload_n hx hb dX14_copyHead_15 rfl (lv_at hl 1 rfl) ?_
  obtain ⟨hv4, h⟩ := h
  have hT_b5 : qT S3 (qO S3 p1 1) = 12 := hR.w.ref hv4 hT_p1
  refine va_get (D := rD g) (ci := 12) (v := .ref (ad (qO S3 p1 1))) (C := RX13) (T := TX13) (N := 23) hx hb hts in2X13 hown hR.K hR.P p1 (hR.at13 hT_p1) rfl 1 (by decide) (hts _ kx_571) (fun _ h9 => h9) (congrArg (fun z => some (vf ad z)) hv4) dX14_copyHead_16 ?_
  refine va_put (D := rD g) (ci := 12) (v := .ref (ad (qO S3 p1 1))) (ty := (.object "java/lang/String")) (C := RX13) (T := TX13) (N := 23) hx hb hts in2X13 tyX13 tyX13_ok nmX13 hown hR.K hR.P hR.D hR.sS 60 (hR.at13 (hR.w.2.1 _ fin_118).2.1) rfl 1 (by decide) (hts _ kx_571) (fun _ h9 => h9) rfl (by decide +kernel) rfl rfl (Nat.le_of_ble_eq_true rfl) dX14_copyHead_19 (fun H locs hP hD hS => ?_)
  have hw9 : wfM (wR S3 60 1 (some (qO S3 p1 1))) := hR.w.put (fun b q9 => by cases q9; exact (hT_b5).trans (by rw [(hR.w.2.1 _ fin_118).2.1]; rfl)) (fun q9 => absurd ((congrArg (qT S3) q9).symm.trans (hR.w.2.1 _ fin_118).2.1) (by rw [hR.w.1]; decide)) (by rw [(hR.w.2.1 _ fin_118).2.1]; decide)
  have hR : Rep g ad A s (wR S3 60 1 (some (qO S3 p1 1))) H locs := hR.pR3 (hR.w.2.1 _ fin_118).2.1 F13_s1 hw9 hP hD hS
  obtain ⟨S6, eS6⟩ : ∃ z, z = wR S3 60 1 (some (qO S3 p1 1)) := ⟨_, rfl⟩
  rw [← eS6] at hR
  replace h := h S6 eS6
  have hT_p1 : qT S6 p1 = 11 := (congrArg (fun z => qT z p1) eS6).trans hT_p1
  have hsh : shy S S6 := by rw [eS6]; exact hsh
  refine lv_aload_n hx hb dX14_copyHead_22 rfl (lv_at hl 0 rfl) ?_
  refine va_get (D := rD g) (ci := 13) (v := .ref (ad 60)) (C := RX14) (T := TX14) (N := 143) hx hb hts in2X14 hown hR.K hR.P 0 (hR.at14 hR.w.1) rfl 118 (by decide) (hts _ kx_802) (fun _ h9 => h9) (congrArg (fun z => some (vf ad z)) (hR.w.2.1 _ fin_118).1) dX14_copyHead_23 ?_
  refine lv_aload_n hx hb dX14_copyHead_26 rfl (lv_at hl 1 rfl) ?_
  refine va_get (D := rD g) (ci := 12) (v := .int (qI S6 p1 3)) (C := RX13) (T := TX13) (N := 23) hx hb hts in2X13 hown hR.K hR.P p1 (hR.at13 hT_p1) rfl 3 (by decide) (hts _ kx_356) (fun _ h9 => h9) rfl dX14_copyHead_27 ?_
  refine va_put (D := rD g) (ci := 12) (v := .int (qI S6 p1 3)) (ty := .int) (C := RX13) (T := TX13) (N := 23) hx hb hts in2X13 tyX13 tyX13_ok nmX13 hown hR.K hR.P hR.D hR.sS 60 (hR.at13 (hR.w.2.1 _ fin_118).2.1) rfl 3 (by decide) (hts _ kx_356) (fun _ h9 => h9) rfl (by decide +kernel) rfl rfl (Nat.le_of_ble_eq_true rfl) dX14_copyHead_30 (fun H locs hP hD hS => ?_)
  have hR : Rep g ad A s (wI S6 60 3 (qI S6 p1 3)) H locs := hR.pI3 (hR.w.2.1 _ fin_118).2.1 F13_s3 hP hD hS
  obtain ⟨S7, eS7⟩ : ∃ z, z = wI S6 60 3 (qI S6 p1 3) := ⟨_, rfl⟩
  rw [← eS7] at hR
  replace h := h S7 eS7
  have hT_p1 : qT S7 p1 = 11 := (congrArg (fun z => qT z p1) eS7).trans hT_p1
  have hsh : shy S S7 := by rw [eS7]; exact hsh
  refine lv_aload_n hx hb dX14_copyHead_33 rfl (lv_at hl 0 rfl) ?_
  refine va_get (D := rD g) (ci := 13) (v := .ref (ad 60)) (C := RX14) (T := TX14) (N := 143) hx hb hts in2X14 hown hR.K hR.P 0 (hR.at14 hR.w.1) rfl 118 (by decide) (hts _ kx_802) (fun _ h9 => h9) (congrArg (fun z => some (vf ad z)) (hR.w.2.1 _ fin_118).1) dX14_copyHead_34 ?_
  refine lv_aload_n hx hb dX14_copyHead_37 rfl (lv_at hl 1 rfl) ?_
  refine va_get (D := rD g) (ci := 12) (v := .int (qI S7 p1 4)) (C := RX13) (T := TX13) (N := 23) hx hb hts in2X13 hown hR.K hR.P p1 (hR.at13 hT_p1) rfl 4 (by decide) (hts _ kx_353) (fun _ h9 => h9) rfl dX14_copyHead_38 ?_
  refine va_put (D := rD g) (ci := 12) (v := .int (qI S7 p1 4)) (ty := .int) (C := RX13) (T := TX13) (N := 23) hx hb hts in2X13 tyX13 tyX13_ok nmX13 hown hR.K hR.P hR.D hR.sS 60 (hR.at13 (hR.w.2.1 _ fin_118).2.1) rfl 4 (by decide) (hts _ kx_353) (fun _ h9 => h9) rfl (by decide +kernel) rfl rfl (Nat.le_of_ble_eq_true rfl) dX14_copyHead_41 (fun H locs hP hD hS => ?_)
  have hR : Rep g ad A s (wI S7 60 4 (qI S7 p1 4)) H locs := hR.pI3 (hR.w.2.1 _ fin_118).2.1 F13_s4 hP hD hS
  obtain ⟨S8, eS8⟩ : ∃ z, z = wI S7 60 4 (qI S7 p1 4) := ⟨_, rfl⟩
  rw [← eS8] at hR
  replace h := h S8 eS8
  have hT_p1 : qT S8 p1 = 11 := (congrArg (fun z => qT z p1) eS8).trans hT_p1
  have hsh : shy S S8 := by rw [eS8]; exact hsh
  refine lv_iconst (v := 0) hx hb dX14_copyHead_44 (by decide) ?_
  refine lv_istore_n (lv' := [(2, .int 0), (0, .ref (ad 0)), (1, .ref (ad p1))]) hx hb dX14_copyHead_45 rfl hl (by decide) rfl (fun ls hl => ?_)
  have J_46 : ∀ (n46 : Nat) (U46 : MS) (v46_1 : Nat) (v46_2 : Int32) (H : Heap) (locs : List Loc) (ls : Array Slot), w_copyHead_L46 Q n46 U46 v46_1 v46_2 → qT U46 v46_1 = 11 → shy S U46 → Rep g ad A s U46 H locs → lv_has ls 3 [(0, .ref (ad 0)), (1, .ref (ad v46_1)), (2, .int v46_2)] → W p l e (headSpec (wt2 yX14_copyHead cX14_copyHead 3 none) ({ frames := 0, cells := 0, slots := 0, locals := 0 })).room s m ([.ref (ad 0), .ref (ad p1)] : List Value).toArray below meth c H locs 0 0 (MQ below (va_Qv (fun (u : MS) => Q u ∧ wfM u ∧ shy S u) (fun (u : MS) (t : State) => qE g ad A u t) A) ([.ref (ad 0), .ref (ad p1)] : List Value).toArray s 0 0 A) (F0 m 46 ls []) := by
    intro n46
    induction n46 with
    | zero => intro U46 v46_1 v46_2 H locs ls h hT_v46_1 hsh hR hl; unfold w_copyHead_L46 at h; exact h.elim
    | succ n46 ih_46 =>
      intro U46 v46_1 v46_2 H locs ls h hT_v46_1 hsh hR hl
      unfold w_copyHead_L46 at h
      refine lv_iload_n hx hb dX14_copyHead_46 rfl (lv_at hl 2 rfl) ?_
      refine lv_aload_n hx hb dX14_copyHead_47 rfl (lv_at hl 1 rfl) ?_
      refine va_get (D := rD g) (ci := 12) (v := .int (qI U46 v46_1 3)) (C := RX13) (T := TX13) (N := 23) hx hb hts in2X13 hown hR.K hR.P v46_1 (hR.at13 hT_v46_1) rfl 3 (by decide) (hts _ kx_356) (fun _ h9 => h9) rfl dX14_copyHead_48 ?_
      refine lv_icmp_ge (tgt := 105) hx hb dX14_copyHead_51 (by decide) (fun c9 => ?_) (fun c9 => ?_)
      · replace h := h.1 (k_le rfl rfl c9)
        refine lv_iconst (v := 0) hx hb dX14_copyHead_105 (by decide) ?_
        refine lv_istore_n (lv' := [(2, .int 0), (0, .ref (ad 0)), (1, .ref (ad v46_1))]) hx hb dX14_copyHead_106 rfl hl (by decide) rfl (fun ls hl => ?_)
        have J_107 : ∀ (n107 : Nat) (U107 : MS) (v107_1 : Nat) (v107_2 : Int32) (H : Heap) (locs : List Loc) (ls : Array Slot), w_copyHead_L107 Q n107 U107 v107_1 v107_2 → qT U107 v107_1 = 11 → shy S U107 → Rep g ad A s U107 H locs → lv_has ls 3 [(0, .ref (ad 0)), (1, .ref (ad v107_1)), (2, .int v107_2)] → W p l e (headSpec (wt2 yX14_copyHead cX14_copyHead 3 none) ({ frames := 0, cells := 0, slots := 0, locals := 0 })).room s m ([.ref (ad 0), .ref (ad p1)] : List Value).toArray below meth c H locs 0 0 (MQ below (va_Qv (fun (u : MS) => Q u ∧ wfM u ∧ shy S u) (fun (u : MS) (t : State) => qE g ad A u t) A) ([.ref (ad 0), .ref (ad p1)] : List Value).toArray s 0 0 A) (F0 m 107 ls []) := by
          intro n107
          induction n107 with
          | zero => intro U107 v107_1 v107_2 H locs ls h hT_v107_1 hsh hR hl; unfold w_copyHead_L107 at h; exact h.elim
          | succ n107 ih_107 =>
            intro U107 v107_1 v107_2 H locs ls h hT_v107_1 hsh hR hl
            unfold w_copyHead_L107 at h
            refine lv_iload_n hx hb dX14_copyHead_107 rfl (lv_at hl 2 rfl) ?_
            refine lv_aload_n hx hb dX14_copyHead_108 rfl (lv_at hl 1 rfl) ?_
            refine va_get (D := rD g) (ci := 12) (v := .int (qI U107 v107_1 4)) (C := RX13) (T := TX13) (N := 23) hx hb hts in2X13 hown hR.K hR.P v107_1 (hR.at13 hT_v107_1) rfl 4 (by decide) (hts _ kx_353) (fun _ h9 => h9) rfl dX14_copyHead_109 ?_
            refine lv_icmp_ge (tgt := 181) hx hb dX14_copyHead_112 (by decide) (fun c10 => ?_) (fun c10 => ?_)
            · replace h := h.1 (k_le rfl rfl c10)
              refine lv_iconst (v := 0) hx hb dX14_copyHead_181 (by decide) ?_
              refine lv_istore_n (lv' := [(2, .int 0), (0, .ref (ad 0)), (1, .ref (ad v107_1))]) hx hb dX14_copyHead_182 rfl hl (by decide) rfl (fun ls hl => ?_)
              have J_183 : ∀ (n183 : Nat) (U183 : MS) (v183_1 : Nat) (v183_2 : Int32) (H : Heap) (locs : List Loc) (ls : Array Slot), w_copyHead_L183 Q n183 U183 v183_1 v183_2 → qT U183 v183_1 = 11 → shy S U183 → Rep g ad A s U183 H locs → lv_has ls 3 [(0, .ref (ad 0)), (1, .ref (ad v183_1)), (2, .int v183_2)] → W p l e (headSpec (wt2 yX14_copyHead cX14_copyHead 3 none) ({ frames := 0, cells := 0, slots := 0, locals := 0 })).room s m ([.ref (ad 0), .ref (ad p1)] : List Value).toArray below meth c H locs 0 0 (MQ below (va_Qv (fun (u : MS) => Q u ∧ wfM u ∧ shy S u) (fun (u : MS) (t : State) => qE g ad A u t) A) ([.ref (ad 0), .ref (ad p1)] : List Value).toArray s 0 0 A) (F0 m 183 ls []) := by
                intro n183
                induction n183 with
                | zero => intro U183 v183_1 v183_2 H locs ls h hT_v183_1 hsh hR hl; unfold w_copyHead_L183 at h; exact h.elim
                | succ n183 ih_183 =>
                  intro U183 v183_1 v183_2 H locs ls h hT_v183_1 hsh hR hl
                  unfold w_copyHead_L183 at h
                  refine lv_iload_n hx hb dX14_copyHead_183 rfl (lv_at hl 2 rfl) ?_
                  refine lv_aload_n hx hb dX14_copyHead_184 rfl (lv_at hl 1 rfl) ?_
                  obtain ⟨hv11, h⟩ := h
                  have hT_b12 : qT U183 (qO U183 v183_1 19) = 2 := hR.w.ref hv11 hT_v183_1
                  refine va_get (D := rD g) (ci := 12) (v := .ref (ad (qO U183 v183_1 19))) (C := RX13) (T := TX13) (N := 23) hx hb hts in2X13 hown hR.K hR.P v183_1 (hR.at13 hT_v183_1) rfl 19 (by decide) (hts _ kx_364) (fun _ h9 => h9) (congrArg (fun z => some (vf ad z)) hv11) dX14_copyHead_185 ?_
                  refine va_alen (v := (Int32.ofNat (qN U183 (qO U183 v183_1 19)))) hx hb hR.K hR.P (qO U183 v183_1 19) 1 (hR.atI hT_b12) rfl rfl dX14_copyHead_188 ?_
                  refine lv_icmp_ge (tgt := 210) hx hb dX14_copyHead_189 (by decide) (fun c13 => ?_) (fun c13 => ?_)
                  · replace h := h.1 (k_le rfl rfl c13)
                    refine lv_aload_n hx hb dX14_copyHead_210 rfl (lv_at hl 0 rfl) ?_
                    refine va_get (D := rD g) (ci := 13) (v := .ref (ad 60)) (C := RX14) (T := TX14) (N := 143) hx hb hts in2X14 hown hR.K hR.P 0 (hR.at14 hR.w.1) rfl 118 (by decide) (hts _ kx_802) (fun _ h9 => h9) (congrArg (fun z => some (vf ad z)) (hR.w.2.1 _ fin_118).1) dX14_copyHead_211 ?_
                    refine lv_aload_n hx hb dX14_copyHead_214 rfl (lv_at hl 0 rfl) ?_
                    refine va_get (D := rD g) (ci := 13) (v := .ref (ad 74)) (C := RX14) (T := TX14) (N := 143) hx hb hts in2X14 hown hR.K hR.P 0 (hR.at14 hR.w.1) rfl 119 (by decide) (hts _ kx_803) (fun _ h9 => h9) (congrArg (fun z => some (vf ad z)) (hR.w.2.1 _ fin_119).1) dX14_copyHead_215 ?_
                    refine va_put (D := rD g) (ci := 12) (v := .ref (ad 74)) (ty := (.array .int)) (C := RX13) (T := TX13) (N := 23) hx hb hts in2X13 tyX13 tyX13_ok nmX13 hown hR.K hR.P hR.D hR.sS 60 (hR.at13 (hR.w.2.1 _ fin_118).2.1) rfl 18 (by decide) (hts _ kx_354) (fun _ h9 => h9) rfl (by decide +kernel) rfl rfl (Nat.le_of_ble_eq_true rfl) dX14_copyHead_218 (fun H locs hP hD hS => ?_)
                    have hw9 : wfM (wR U183 60 18 (some 74)) := hR.w.put (fun b q9 => by cases q9; exact ((hR.w.2.1 _ fin_119).2.1).trans (by rw [(hR.w.2.1 _ fin_118).2.1]; rfl)) (fun q9 => absurd ((congrArg (qT U183) q9).symm.trans (hR.w.2.1 _ fin_118).2.1) (by rw [hR.w.1]; decide)) (by rw [(hR.w.2.1 _ fin_118).2.1]; decide)
                    have hR : Rep g ad A s (wR U183 60 18 (some 74)) H locs := hR.pR3 (hR.w.2.1 _ fin_118).2.1 F13_s18 hw9 hP hD hS
                    obtain ⟨S14, eS14⟩ : ∃ z, z = wR U183 60 18 (some 74) := ⟨_, rfl⟩
                    rw [← eS14] at hR
                    replace h := h S14 eS14
                    have hT_v183_1 : qT S14 v183_1 = 11 := (congrArg (fun z => qT z v183_1) eS14).trans hT_v183_1
                    have hsh : shy S S14 := by rw [eS14]; exact hsh
                    refine lv_aload_n hx hb dX14_copyHead_221 rfl (lv_at hl 0 rfl) ?_
                    refine va_get (D := rD g) (ci := 13) (v := .ref (ad 60)) (C := RX14) (T := TX14) (N := 143) hx hb hts in2X14 hown hR.K hR.P 0 (hR.at14 hR.w.1) rfl 118 (by decide) (hts _ kx_802) (fun _ h9 => h9) (congrArg (fun z => some (vf ad z)) (hR.w.2.1 _ fin_118).1) dX14_copyHead_222 ?_
                    refine lv_aload_n hx hb dX14_copyHead_225 rfl (lv_at hl 0 rfl) ?_
                    refine va_get (D := rD g) (ci := 13) (v := .ref (ad 75)) (C := RX14) (T := TX14) (N := 143) hx hb hts in2X14 hown hR.K hR.P 0 (hR.at14 hR.w.1) rfl 120 (by decide) (hts _ kx_699) (fun _ h9 => h9) (congrArg (fun z => some (vf ad z)) (hR.w.2.1 _ fin_120).1) dX14_copyHead_226 ?_
                    refine va_put (D := rD g) (ci := 12) (v := .ref (ad 75)) (ty := (.array .int)) (C := RX13) (T := TX13) (N := 23) hx hb hts in2X13 tyX13 tyX13_ok nmX13 hown hR.K hR.P hR.D hR.sS 60 (hR.at13 (hR.w.2.1 _ fin_118).2.1) rfl 19 (by decide) (hts _ kx_364) (fun _ h9 => h9) rfl (by decide +kernel) rfl rfl (Nat.le_of_ble_eq_true rfl) dX14_copyHead_229 (fun H locs hP hD hS => ?_)
                    have hw9 : wfM (wR S14 60 19 (some 75)) := hR.w.put (fun b q9 => by cases q9; exact ((hR.w.2.1 _ fin_120).2.1).trans (by rw [(hR.w.2.1 _ fin_118).2.1]; rfl)) (fun q9 => absurd ((congrArg (qT S14) q9).symm.trans (hR.w.2.1 _ fin_118).2.1) (by rw [hR.w.1]; decide)) (by rw [(hR.w.2.1 _ fin_118).2.1]; decide)
                    have hR : Rep g ad A s (wR S14 60 19 (some 75)) H locs := hR.pR3 (hR.w.2.1 _ fin_118).2.1 F13_s19 hw9 hP hD hS
                    obtain ⟨S15, eS15⟩ : ∃ z, z = wR S14 60 19 (some 75) := ⟨_, rfl⟩
                    rw [← eS15] at hR
                    replace h := h S15 eS15
                    have hT_v183_1 : qT S15 v183_1 = 11 := (congrArg (fun z => qT z v183_1) eS15).trans hT_v183_1
                    have hsh : shy S S15 := by rw [eS15]; exact hsh
                    refine lv_aload_n hx hb dX14_copyHead_232 rfl (lv_at hl 0 rfl) ?_
                    refine va_get (D := rD g) (ci := 13) (v := .ref (ad 60)) (C := RX14) (T := TX14) (N := 143) hx hb hts in2X14 hown hR.K hR.P 0 (hR.at14 hR.w.1) rfl 118 (by decide) (hts _ kx_802) (fun _ h9 => h9) (congrArg (fun z => some (vf ad z)) (hR.w.2.1 _ fin_118).1) dX14_copyHead_233 ?_
                    refine lv_aload_n hx hb dX14_copyHead_236 rfl (lv_at hl 0 rfl) ?_
                    refine va_get (D := rD g) (ci := 13) (v := .ref (ad 76)) (C := RX14) (T := TX14) (N := 143) hx hb hts in2X14 hown hR.K hR.P 0 (hR.at14 hR.w.1) rfl 121 (by decide) (hts _ kx_804) (fun _ h9 => h9) (congrArg (fun z => some (vf ad z)) (hR.w.2.1 _ fin_121).1) dX14_copyHead_237 ?_
                    refine va_put (D := rD g) (ci := 12) (v := .ref (ad 76)) (ty := (.array .int)) (C := RX13) (T := TX13) (N := 23) hx hb hts in2X13 tyX13 tyX13_ok nmX13 hown hR.K hR.P hR.D hR.sS 60 (hR.at13 (hR.w.2.1 _ fin_118).2.1) rfl 20 (by decide) (hts _ kx_366) (fun _ h9 => h9) rfl (by decide +kernel) rfl rfl (Nat.le_of_ble_eq_true rfl) dX14_copyHead_240 (fun H locs hP hD hS => ?_)
                    have hw9 : wfM (wR S15 60 20 (some 76)) := hR.w.put (fun b q9 => by cases q9; exact ((hR.w.2.1 _ fin_121).2.1).trans (by rw [(hR.w.2.1 _ fin_118).2.1]; rfl)) (fun q9 => absurd ((congrArg (qT S15) q9).symm.trans (hR.w.2.1 _ fin_118).2.1) (by rw [hR.w.1]; decide)) (by rw [(hR.w.2.1 _ fin_118).2.1]; decide)
                    have hR : Rep g ad A s (wR S15 60 20 (some 76)) H locs := hR.pR3 (hR.w.2.1 _ fin_118).2.1 F13_s20 hw9 hP hD hS
                    obtain ⟨S16, eS16⟩ : ∃ z, z = wR S15 60 20 (some 76) := ⟨_, rfl⟩
                    rw [← eS16] at hR
                    replace h := h S16 eS16
                    have hT_v183_1 : qT S16 v183_1 = 11 := (congrArg (fun z => qT z v183_1) eS16).trans hT_v183_1
                    have hsh : shy S S16 := by rw [eS16]; exact hsh
                    refine lv_aload_n hx hb dX14_copyHead_243 rfl (lv_at hl 0 rfl) ?_
                    refine lv_iconst (v := 0) hx hb dX14_copyHead_244 (by decide) ?_
                    refine va_put (D := rD g) (ci := 13) (v := .int 0) (ty := .int) (C := RX14) (T := TX14) (N := 143) hx hb hts in2X14 tyX14 tyX14_ok nmX14 hown hR.K hR.P hR.D hR.sS 0 (hR.at14 hR.w.1) rfl 122 (by decide) (hts _ kx_805) (fun _ h9 => h9) rfl (by decide +kernel) rfl rfl (Nat.le_of_ble_eq_true rfl) dX14_copyHead_245 (fun H locs hP hD hS => ?_)
                    have hR : Rep g ad A s (wI S16 0 122 0) H locs := hR.pI hR.w.1 F14_s122 hP hD hS
                    obtain ⟨S17, eS17⟩ : ∃ z, z = wI S16 0 122 0 := ⟨_, rfl⟩
                    rw [← eS17] at hR
                    replace h := h S17 eS17
                    have hT_v183_1 : qT S17 v183_1 = 11 := (congrArg (fun z => qT z v183_1) eS17).trans hT_v183_1
                    have hsh : shy S S17 := by rw [eS17]; exact hsh
                    refine lv_aload_n hx hb dX14_copyHead_248 rfl (lv_at hl 0 rfl) ?_
                    refine lv_iconst (v := 0) hx hb dX14_copyHead_249 (by decide) ?_
                    refine va_put (D := rD g) (ci := 13) (v := .int 0) (ty := .int) (C := RX14) (T := TX14) (N := 143) hx hb hts in2X14 tyX14 tyX14_ok nmX14 hown hR.K hR.P hR.D hR.sS 0 (hR.at14 hR.w.1) rfl 123 (by decide) (hts _ kx_806) (fun _ h9 => h9) rfl (by decide +kernel) rfl rfl (Nat.le_of_ble_eq_true rfl) dX14_copyHead_250 (fun H locs hP hD hS => ?_)
                    have hR : Rep g ad A s (wI S17 0 123 0) H locs := hR.pI hR.w.1 F14_s123 hP hD hS
                    obtain ⟨S18, eS18⟩ : ∃ z, z = wI S17 0 123 0 := ⟨_, rfl⟩
                    rw [← eS18] at hR
                    replace h := h S18 eS18
                    have hT_v183_1 : qT S18 v183_1 = 11 := (congrArg (fun z => qT z v183_1) eS18).trans hT_v183_1
                    have hsh : shy S S18 := by rw [eS18]; exact hsh
                    exact W.vret hx hb hr (fun t9 ht9 hW9 => ⟨⟨S18, rfl, ⟨h, hR.w, hsh⟩, ⟨by rw [ht9]; exact hR.P, hR.D⟩⟩, hR.sS.F ht9⟩) hR.sS.2.2 dX14_copyHead_253
                  · replace h := h.2 (k_nle rfl rfl c13)
                    refine lv_aload_n hx hb dX14_copyHead_192 rfl (lv_at hl 0 rfl) ?_
                    refine va_get (D := rD g) (ci := 13) (v := .ref (ad 75)) (C := RX14) (T := TX14) (N := 143) hx hb hts in2X14 hown hR.K hR.P 0 (hR.at14 hR.w.1) rfl 120 (by decide) (hts _ kx_699) (fun _ h9 => h9) (congrArg (fun z => some (vf ad z)) (hR.w.2.1 _ fin_120).1) dX14_copyHead_193 ?_
                    refine lv_iload_n hx hb dX14_copyHead_196 rfl (lv_at hl 2 rfl) ?_
                    refine lv_aload_n hx hb dX14_copyHead_197 rfl (lv_at hl 1 rfl) ?_
                    obtain ⟨hv19, h⟩ := h
                    have hT_b20 : qT U183 (qO U183 v183_1 19) = 2 := hR.w.ref hv19 hT_v183_1
                    refine va_get (D := rD g) (ci := 12) (v := .ref (ad (qO U183 v183_1 19))) (C := RX13) (T := TX13) (N := 23) hx hb hts in2X13 hown hR.K hR.P v183_1 (hR.at13 hT_v183_1) rfl 19 (by decide) (hts _ kx_364) (fun _ h9 => h9) (congrArg (fun z => some (vf ad z)) hv19) dX14_copyHead_198 ?_
                    refine lv_iload_n hx hb dX14_copyHead_201 rfl (lv_at hl 2 rfl) ?_
                    obtain ⟨hv21, h⟩ := h
                    refine va_iald hx hb hR.K hR.P (qO U183 v183_1 19) 1 (hR.atI hT_b20) rfl (k_ix (x := v183_2) (a := v183_2.toInt) rfl hv21) dX14_copyHead_202 ?_
                    refine lv_topi (fun z22 ez22 => ?_)
                    obtain rfl : z22 = (qI U183 (qO U183 v183_1 19) v183_2.toInt.toNat) := ez22
                    obtain ⟨hv23, h⟩ := h
                    refine va_iast hx hb hR.K hR.P hR.D hR.sS 75 1 (hR.atI (hR.w.2.1 _ fin_120).2.1) rfl (k_ixN (k_ix (n := 40000) (x := v183_2) (a := v183_2.toInt) rfl hv23) (hR.w.2.1 _ fin_120).2.2) dX14_copyHead_203 (fun H locs hP hD hS => ?_)
                    have hR : Rep g ad A s (wI U183 75 v183_2.toInt.toNat (qI U183 (qO U183 v183_1 19) v183_2.toInt.toNat)) H locs := hR.aI (hR.w.2.1 _ fin_120).2.1 hP hD hS
                    obtain ⟨S24, eS24⟩ : ∃ z, z = wI U183 75 v183_2.toInt.toNat (qI U183 (qO U183 v183_1 19) v183_2.toInt.toNat) := ⟨_, rfl⟩
                    rw [← eS24] at hR
                    replace h := h S24 eS24
                    have hT_v183_1 : qT S24 v183_1 = 11 := (congrArg (fun z => qT z v183_1) eS24).trans hT_v183_1
                    have hsh : shy S S24 := by rw [eS24]; exact hsh
                    obtain ⟨a25, ea25⟩ : ∃ z, z = (v183_2 + Int32.ofInt 1) := ⟨_, rfl⟩
                    replace h := h a25 ea25
                    refine lv_iinc (v := a25) (lv' := [(2, .int a25), (0, .ref (ad 0)), (1, .ref (ad v183_1))]) hx hb dX14_copyHead_204 hl (k := 2) rfl ea25.symm (by decide) rfl (fun ls hl => ?_)
                    refine lv_goto (tgt := 183) hx hb dX14_copyHead_207 (by decide) ?_
                    exact ih_183 S24 v183_1 a25 _ _ ls h hT_v183_1 hsh hR (lv_sub hl [1, 2, 0] rfl)
              obtain ⟨n9, h⟩ := h
              exact J_183 n9 U107 v107_1 0 _ _ ls h hT_v107_1 hsh hR (lv_sub hl [1, 2, 0] rfl)
            · replace h := h.2 (k_nle rfl rfl c10)
              refine lv_aload_n hx hb dX14_copyHead_115 rfl (lv_at hl 0 rfl) ?_
              refine va_get (D := rD g) (ci := 13) (v := .ref (ad 60)) (C := RX14) (T := TX14) (N := 143) hx hb hts in2X14 hown hR.K hR.P 0 (hR.at14 hR.w.1) rfl 118 (by decide) (hts _ kx_802) (fun _ h9 => h9) (congrArg (fun z => some (vf ad z)) (hR.w.2.1 _ fin_118).1) dX14_copyHead_116 ?_
              obtain ⟨hv26, h⟩ := h
              have hT_b27 : qT U107 (qO U107 60 8) = 5 := hR.w.ref hv26 (hR.w.2.1 _ fin_118).2.1
              refine va_get (D := rD g) (ci := 12) (v := .ref (ad (qO U107 60 8))) (C := RX13) (T := TX13) (N := 23) hx hb hts in2X13 hown hR.K hR.P 60 (hR.at13 (hR.w.2.1 _ fin_118).2.1) rfl 8 (by decide) (hts _ kx_569) (fun _ h9 => h9) (congrArg (fun z => some (vf ad z)) hv26) dX14_copyHead_119 ?_
              refine lv_iload_n hx hb dX14_copyHead_122 rfl (lv_at hl 2 rfl) ?_
              refine lv_aload_n hx hb dX14_copyHead_123 rfl (lv_at hl 1 rfl) ?_
              obtain ⟨hv28, h⟩ := h
              have hT_b29 : qT U107 (qO U107 v107_1 8) = 5 := hR.w.ref hv28 hT_v107_1
              refine va_get (D := rD g) (ci := 12) (v := .ref (ad (qO U107 v107_1 8))) (C := RX13) (T := TX13) (N := 23) hx hb hts in2X13 hown hR.K hR.P v107_1 (hR.at13 hT_v107_1) rfl 8 (by decide) (hts _ kx_569) (fun _ h9 => h9) (congrArg (fun z => some (vf ad z)) hv28) dX14_copyHead_124 ?_
              refine lv_iload_n hx hb dX14_copyHead_127 rfl (lv_at hl 2 rfl) ?_
              obtain ⟨hv30, h⟩ := h
              refine va_aldq hx hb hR.K hR.P (qO U107 v107_1 8) 4 (hR.atS hT_b29) rfl (k_ix (x := v107_2) (a := v107_2.toInt) rfl hv30) dX14_copyHead_128 ?_
              obtain ⟨hv31, h⟩ := h
              have hT_b32 : qT U107 (qO U107 (qO U107 v107_1 8) v107_2.toInt.toNat) = 12 := hR.w.ref hv31 hT_b29
              rw [show va_rf (Option.map ad (qR U107 (qO U107 v107_1 8) (v107_2 : Int32).toNatClampNeg)) = .ref (ad (qO U107 (qO U107 v107_1 8) v107_2.toInt.toNat)) from congrArg (fun z => vf ad z) hv31]
              obtain ⟨hv33, h⟩ := h
              refine va_astqM (E := "java/lang/String") hx hb hR.K hR.P hR.D hR.sS (qO U107 60 8) 4 (hR.atS hT_b27) rfl (any_str hts hR hE hA hT_b32) (k_ix (x := v107_2) (a := v107_2.toInt) rfl hv33) dX14_copyHead_129 (fun H locs hP hD hS => ?_)
              have hw9 : wfM (wR U107 (qO U107 60 8) v107_2.toInt.toNat (some (qO U107 (qO U107 v107_1 8) v107_2.toInt.toNat))) := hR.w.put (fun b q9 => by cases q9; exact (hT_b32).trans (by rw [hT_b27]; rfl)) (fun q9 => absurd ((congrArg (qT U107) q9).symm.trans hT_b27) (by rw [hR.w.1]; decide)) (by rw [hT_b27]; show (12 : Nat) ≠ 0; decide)
              have hR : Rep g ad A s (wR U107 (qO U107 60 8) v107_2.toInt.toNat (some (qO U107 (qO U107 v107_1 8) v107_2.toInt.toNat))) H locs := hR.aS hT_b27 hw9 hP hD hS
              obtain ⟨S34, eS34⟩ : ∃ z, z = wR U107 (qO U107 60 8) v107_2.toInt.toNat (some (qO U107 (qO U107 v107_1 8) v107_2.toInt.toNat)) := ⟨_, rfl⟩
              rw [← eS34] at hR
              replace h := h S34 eS34
              have hT_v107_1 : qT S34 v107_1 = 11 := (congrArg (fun z => qT z v107_1) eS34).trans hT_v107_1
              have hsh : shy S S34 := by rw [eS34]; exact hsh
              refine lv_aload_n hx hb dX14_copyHead_130 rfl (lv_at hl 0 rfl) ?_
              refine va_get (D := rD g) (ci := 13) (v := .ref (ad 60)) (C := RX14) (T := TX14) (N := 143) hx hb hts in2X14 hown hR.K hR.P 0 (hR.at14 hR.w.1) rfl 118 (by decide) (hts _ kx_802) (fun _ h9 => h9) (congrArg (fun z => some (vf ad z)) (hR.w.2.1 _ fin_118).1) dX14_copyHead_131 ?_
              obtain ⟨hv35, h⟩ := h
              have hT_b36 : qT S34 (qO S34 60 9) = 5 := hR.w.ref hv35 (hR.w.2.1 _ fin_118).2.1
              refine va_get (D := rD g) (ci := 12) (v := .ref (ad (qO S34 60 9))) (C := RX13) (T := TX13) (N := 23) hx hb hts in2X13 hown hR.K hR.P 60 (hR.at13 (hR.w.2.1 _ fin_118).2.1) rfl 9 (by decide) (hts _ kx_570) (fun _ h9 => h9) (congrArg (fun z => some (vf ad z)) hv35) dX14_copyHead_134 ?_
              refine lv_iload_n hx hb dX14_copyHead_137 rfl (lv_at hl 2 rfl) ?_
              refine lv_aload_n hx hb dX14_copyHead_138 rfl (lv_at hl 1 rfl) ?_
              obtain ⟨hv37, h⟩ := h
              have hT_b38 : qT S34 (qO S34 v107_1 9) = 5 := hR.w.ref hv37 hT_v107_1
              refine va_get (D := rD g) (ci := 12) (v := .ref (ad (qO S34 v107_1 9))) (C := RX13) (T := TX13) (N := 23) hx hb hts in2X13 hown hR.K hR.P v107_1 (hR.at13 hT_v107_1) rfl 9 (by decide) (hts _ kx_570) (fun _ h9 => h9) (congrArg (fun z => some (vf ad z)) hv37) dX14_copyHead_139 ?_
              refine lv_iload_n hx hb dX14_copyHead_142 rfl (lv_at hl 2 rfl) ?_
              obtain ⟨hv39, h⟩ := h
              refine va_aldq hx hb hR.K hR.P (qO S34 v107_1 9) 4 (hR.atS hT_b38) rfl (k_ix (x := v107_2) (a := v107_2.toInt) rfl hv39) dX14_copyHead_143 ?_
              obtain ⟨hv40, h⟩ := h
              have hT_b41 : qT S34 (qO S34 (qO S34 v107_1 9) v107_2.toInt.toNat) = 12 := hR.w.ref hv40 hT_b38
              rw [show va_rf (Option.map ad (qR S34 (qO S34 v107_1 9) (v107_2 : Int32).toNatClampNeg)) = .ref (ad (qO S34 (qO S34 v107_1 9) v107_2.toInt.toNat)) from congrArg (fun z => vf ad z) hv40]
              obtain ⟨hv42, h⟩ := h
              refine va_astqM (E := "java/lang/String") hx hb hR.K hR.P hR.D hR.sS (qO S34 60 9) 4 (hR.atS hT_b36) rfl (any_str hts hR hE hA hT_b41) (k_ix (x := v107_2) (a := v107_2.toInt) rfl hv42) dX14_copyHead_144 (fun H locs hP hD hS => ?_)
              have hw9 : wfM (wR S34 (qO S34 60 9) v107_2.toInt.toNat (some (qO S34 (qO S34 v107_1 9) v107_2.toInt.toNat))) := hR.w.put (fun b q9 => by cases q9; exact (hT_b41).trans (by rw [hT_b36]; rfl)) (fun q9 => absurd ((congrArg (qT S34) q9).symm.trans hT_b36) (by rw [hR.w.1]; decide)) (by rw [hT_b36]; show (12 : Nat) ≠ 0; decide)
              have hR : Rep g ad A s (wR S34 (qO S34 60 9) v107_2.toInt.toNat (some (qO S34 (qO S34 v107_1 9) v107_2.toInt.toNat))) H locs := hR.aS hT_b36 hw9 hP hD hS
              obtain ⟨S43, eS43⟩ : ∃ z, z = wR S34 (qO S34 60 9) v107_2.toInt.toNat (some (qO S34 (qO S34 v107_1 9) v107_2.toInt.toNat)) := ⟨_, rfl⟩
              rw [← eS43] at hR
              replace h := h S43 eS43
              have hT_v107_1 : qT S43 v107_1 = 11 := (congrArg (fun z => qT z v107_1) eS43).trans hT_v107_1
              have hsh : shy S S43 := by rw [eS43]; exact hsh
              refine lv_aload_n hx hb dX14_copyHead_145 rfl (lv_at hl 0 rfl) ?_
              refine va_get (D := rD g) (ci := 13) (v := .ref (ad 60)) (C := RX14) (T := TX14) (N := 143) hx hb hts in2X14 hown hR.K hR.P 0 (hR.at14 hR.w.1) rfl 118 (by decide) (hts _ kx_802) (fun _ h9 => h9) (congrArg (fun z => some (vf ad z)) (hR.w.2.1 _ fin_118).1) dX14_copyHead_146 ?_
              obtain ⟨hv44, h⟩ := h
              have hT_b45 : qT S43 (qO S43 60 10) = 5 := hR.w.ref hv44 (hR.w.2.1 _ fin_118).2.1
              refine va_get (D := rD g) (ci := 12) (v := .ref (ad (qO S43 60 10))) (C := RX13) (T := TX13) (N := 23) hx hb hts in2X13 hown hR.K hR.P 60 (hR.at13 (hR.w.2.1 _ fin_118).2.1) rfl 10 (by decide) (hts _ kx_398) (fun _ h9 => h9) (congrArg (fun z => some (vf ad z)) hv44) dX14_copyHead_149 ?_
              refine lv_iload_n hx hb dX14_copyHead_152 rfl (lv_at hl 2 rfl) ?_
              refine lv_aload_n hx hb dX14_copyHead_153 rfl (lv_at hl 1 rfl) ?_
              obtain ⟨hv46, h⟩ := h
              have hT_b47 : qT S43 (qO S43 v107_1 10) = 5 := hR.w.ref hv46 hT_v107_1
              refine va_get (D := rD g) (ci := 12) (v := .ref (ad (qO S43 v107_1 10))) (C := RX13) (T := TX13) (N := 23) hx hb hts in2X13 hown hR.K hR.P v107_1 (hR.at13 hT_v107_1) rfl 10 (by decide) (hts _ kx_398) (fun _ h9 => h9) (congrArg (fun z => some (vf ad z)) hv46) dX14_copyHead_154 ?_
              refine lv_iload_n hx hb dX14_copyHead_157 rfl (lv_at hl 2 rfl) ?_
              obtain ⟨hv48, h⟩ := h
              refine va_aldq hx hb hR.K hR.P (qO S43 v107_1 10) 4 (hR.atS hT_b47) rfl (k_ix (x := v107_2) (a := v107_2.toInt) rfl hv48) dX14_copyHead_158 ?_
              obtain ⟨hv49, h⟩ := h
              have hT_b50 : qT S43 (qO S43 (qO S43 v107_1 10) v107_2.toInt.toNat) = 12 := hR.w.ref hv49 hT_b47
              rw [show va_rf (Option.map ad (qR S43 (qO S43 v107_1 10) (v107_2 : Int32).toNatClampNeg)) = .ref (ad (qO S43 (qO S43 v107_1 10) v107_2.toInt.toNat)) from congrArg (fun z => vf ad z) hv49]
              obtain ⟨hv51, h⟩ := h
              refine va_astqM (E := "java/lang/String") hx hb hR.K hR.P hR.D hR.sS (qO S43 60 10) 4 (hR.atS hT_b45) rfl (any_str hts hR hE hA hT_b50) (k_ix (x := v107_2) (a := v107_2.toInt) rfl hv51) dX14_copyHead_159 (fun H locs hP hD hS => ?_)
              have hw9 : wfM (wR S43 (qO S43 60 10) v107_2.toInt.toNat (some (qO S43 (qO S43 v107_1 10) v107_2.toInt.toNat))) := hR.w.put (fun b q9 => by cases q9; exact (hT_b50).trans (by rw [hT_b45]; rfl)) (fun q9 => absurd ((congrArg (qT S43) q9).symm.trans hT_b45) (by rw [hR.w.1]; decide)) (by rw [hT_b45]; show (12 : Nat) ≠ 0; decide)
              have hR : Rep g ad A s (wR S43 (qO S43 60 10) v107_2.toInt.toNat (some (qO S43 (qO S43 v107_1 10) v107_2.toInt.toNat))) H locs := hR.aS hT_b45 hw9 hP hD hS
              obtain ⟨S52, eS52⟩ : ∃ z, z = wR S43 (qO S43 60 10) v107_2.toInt.toNat (some (qO S43 (qO S43 v107_1 10) v107_2.toInt.toNat)) := ⟨_, rfl⟩
              rw [← eS52] at hR
              replace h := h S52 eS52
              have hT_v107_1 : qT S52 v107_1 = 11 := (congrArg (fun z => qT z v107_1) eS52).trans hT_v107_1
              have hsh : shy S S52 := by rw [eS52]; exact hsh
              refine lv_aload_n hx hb dX14_copyHead_160 rfl (lv_at hl 0 rfl) ?_
              refine va_get (D := rD g) (ci := 13) (v := .ref (ad 60)) (C := RX14) (T := TX14) (N := 143) hx hb hts in2X14 hown hR.K hR.P 0 (hR.at14 hR.w.1) rfl 118 (by decide) (hts _ kx_802) (fun _ h9 => h9) (congrArg (fun z => some (vf ad z)) (hR.w.2.1 _ fin_118).1) dX14_copyHead_161 ?_
              obtain ⟨hv53, h⟩ := h
              have hT_b54 : qT S52 (qO S52 60 11) = 5 := hR.w.ref hv53 (hR.w.2.1 _ fin_118).2.1
              refine va_get (D := rD g) (ci := 12) (v := .ref (ad (qO S52 60 11))) (C := RX13) (T := TX13) (N := 23) hx hb hts in2X13 hown hR.K hR.P 60 (hR.at13 (hR.w.2.1 _ fin_118).2.1) rfl 11 (by decide) (hts _ kx_399) (fun _ h9 => h9) (congrArg (fun z => some (vf ad z)) hv53) dX14_copyHead_164 ?_
              refine lv_iload_n hx hb dX14_copyHead_167 rfl (lv_at hl 2 rfl) ?_
              refine lv_aload_n hx hb dX14_copyHead_168 rfl (lv_at hl 1 rfl) ?_
              obtain ⟨hv55, h⟩ := h
              have hT_b56 : qT S52 (qO S52 v107_1 11) = 5 := hR.w.ref hv55 hT_v107_1
              refine va_get (D := rD g) (ci := 12) (v := .ref (ad (qO S52 v107_1 11))) (C := RX13) (T := TX13) (N := 23) hx hb hts in2X13 hown hR.K hR.P v107_1 (hR.at13 hT_v107_1) rfl 11 (by decide) (hts _ kx_399) (fun _ h9 => h9) (congrArg (fun z => some (vf ad z)) hv55) dX14_copyHead_169 ?_
              refine lv_iload_n hx hb dX14_copyHead_172 rfl (lv_at hl 2 rfl) ?_
              obtain ⟨hv57, h⟩ := h
              refine va_aldq hx hb hR.K hR.P (qO S52 v107_1 11) 4 (hR.atS hT_b56) rfl (k_ix (x := v107_2) (a := v107_2.toInt) rfl hv57) dX14_copyHead_173 ?_
              obtain ⟨hv58, h⟩ := h
              have hT_b59 : qT S52 (qO S52 (qO S52 v107_1 11) v107_2.toInt.toNat) = 12 := hR.w.ref hv58 hT_b56
              rw [show va_rf (Option.map ad (qR S52 (qO S52 v107_1 11) (v107_2 : Int32).toNatClampNeg)) = .ref (ad (qO S52 (qO S52 v107_1 11) v107_2.toInt.toNat)) from congrArg (fun z => vf ad z) hv58]
              obtain ⟨hv60, h⟩ := h
              refine va_astqM (E := "java/lang/String") hx hb hR.K hR.P hR.D hR.sS (qO S52 60 11) 4 (hR.atS hT_b54) rfl (any_str hts hR hE hA hT_b59) (k_ix (x := v107_2) (a := v107_2.toInt) rfl hv60) dX14_copyHead_174 (fun H locs hP hD hS => ?_)
              have hw9 : wfM (wR S52 (qO S52 60 11) v107_2.toInt.toNat (some (qO S52 (qO S52 v107_1 11) v107_2.toInt.toNat))) := hR.w.put (fun b q9 => by cases q9; exact (hT_b59).trans (by rw [hT_b54]; rfl)) (fun q9 => absurd ((congrArg (qT S52) q9).symm.trans hT_b54) (by rw [hR.w.1]; decide)) (by rw [hT_b54]; show (12 : Nat) ≠ 0; decide)
              have hR : Rep g ad A s (wR S52 (qO S52 60 11) v107_2.toInt.toNat (some (qO S52 (qO S52 v107_1 11) v107_2.toInt.toNat))) H locs := hR.aS hT_b54 hw9 hP hD hS
              obtain ⟨S61, eS61⟩ : ∃ z, z = wR S52 (qO S52 60 11) v107_2.toInt.toNat (some (qO S52 (qO S52 v107_1 11) v107_2.toInt.toNat)) := ⟨_, rfl⟩
              rw [← eS61] at hR
              replace h := h S61 eS61
              have hT_v107_1 : qT S61 v107_1 = 11 := (congrArg (fun z => qT z v107_1) eS61).trans hT_v107_1
              have hsh : shy S S61 := by rw [eS61]; exact hsh
              obtain ⟨a62, ea62⟩ : ∃ z, z = (v107_2 + Int32.ofInt 1) := ⟨_, rfl⟩
              replace h := h a62 ea62
              refine lv_iinc (v := a62) (lv' := [(2, .int a62), (0, .ref (ad 0)), (1, .ref (ad v107_1))]) hx hb dX14_copyHead_175 hl (k := 2) rfl ea62.symm (by decide) rfl (fun ls hl => ?_)
              refine lv_goto (tgt := 107) hx hb dX14_copyHead_178 (by decide) ?_
              exact ih_107 S61 v107_1 a62 _ _ ls h hT_v107_1 hsh hR (lv_sub hl [1, 2, 0] rfl)
        obtain ⟨n9, h⟩ := h
        exact J_107 n9 U46 v46_1 0 _ _ ls h hT_v46_1 hsh hR (lv_sub hl [1, 2, 0] rfl)
      · replace h := h.2 (k_nle rfl rfl c9)
        refine lv_aload_n hx hb dX14_copyHead_54 rfl (lv_at hl 0 rfl) ?_
        refine va_get (D := rD g) (ci := 13) (v := .ref (ad 60)) (C := RX14) (T := TX14) (N := 143) hx hb hts in2X14 hown hR.K hR.P 0 (hR.at14 hR.w.1) rfl 118 (by decide) (hts _ kx_802) (fun _ h9 => h9) (congrArg (fun z => some (vf ad z)) (hR.w.2.1 _ fin_118).1) dX14_copyHead_55 ?_
        obtain ⟨hv63, h⟩ := h
        have hT_b64 : qT U46 (qO U46 60 5) = 5 := hR.w.ref hv63 (hR.w.2.1 _ fin_118).2.1
        refine va_get (D := rD g) (ci := 12) (v := .ref (ad (qO U46 60 5))) (C := RX13) (T := TX13) (N := 23) hx hb hts in2X13 hown hR.K hR.P 60 (hR.at13 (hR.w.2.1 _ fin_118).2.1) rfl 5 (by decide) (hts _ kx_563) (fun _ h9 => h9) (congrArg (fun z => some (vf ad z)) hv63) dX14_copyHead_58 ?_
        refine lv_iload_n hx hb dX14_copyHead_61 rfl (lv_at hl 2 rfl) ?_
        refine lv_aload_n hx hb dX14_copyHead_62 rfl (lv_at hl 1 rfl) ?_
        obtain ⟨hv65, h⟩ := h
        have hT_b66 : qT U46 (qO U46 v46_1 5) = 5 := hR.w.ref hv65 hT_v46_1
        refine va_get (D := rD g) (ci := 12) (v := .ref (ad (qO U46 v46_1 5))) (C := RX13) (T := TX13) (N := 23) hx hb hts in2X13 hown hR.K hR.P v46_1 (hR.at13 hT_v46_1) rfl 5 (by decide) (hts _ kx_563) (fun _ h9 => h9) (congrArg (fun z => some (vf ad z)) hv65) dX14_copyHead_63 ?_
        refine lv_iload_n hx hb dX14_copyHead_66 rfl (lv_at hl 2 rfl) ?_
        obtain ⟨hv67, h⟩ := h
        refine va_aldq hx hb hR.K hR.P (qO U46 v46_1 5) 4 (hR.atS hT_b66) rfl (k_ix (x := v46_2) (a := v46_2.toInt) rfl hv67) dX14_copyHead_67 ?_
        obtain ⟨hv68, h⟩ := h
        have hT_b69 : qT U46 (qO U46 (qO U46 v46_1 5) v46_2.toInt.toNat) = 12 := hR.w.ref hv68 hT_b66
        rw [show va_rf (Option.map ad (qR U46 (qO U46 v46_1 5) (v46_2 : Int32).toNatClampNeg)) = .ref (ad (qO U46 (qO U46 v46_1 5) v46_2.toInt.toNat)) from congrArg (fun z => vf ad z) hv68]
        obtain ⟨hv70, h⟩ := h
        refine va_astqM (E := "java/lang/String") hx hb hR.K hR.P hR.D hR.sS (qO U46 60 5) 4 (hR.atS hT_b64) rfl (any_str hts hR hE hA hT_b69) (k_ix (x := v46_2) (a := v46_2.toInt) rfl hv70) dX14_copyHead_68 (fun H locs hP hD hS => ?_)
        have hw9 : wfM (wR U46 (qO U46 60 5) v46_2.toInt.toNat (some (qO U46 (qO U46 v46_1 5) v46_2.toInt.toNat))) := hR.w.put (fun b q9 => by cases q9; exact (hT_b69).trans (by rw [hT_b64]; rfl)) (fun q9 => absurd ((congrArg (qT U46) q9).symm.trans hT_b64) (by rw [hR.w.1]; decide)) (by rw [hT_b64]; show (12 : Nat) ≠ 0; decide)
        have hR : Rep g ad A s (wR U46 (qO U46 60 5) v46_2.toInt.toNat (some (qO U46 (qO U46 v46_1 5) v46_2.toInt.toNat))) H locs := hR.aS hT_b64 hw9 hP hD hS
        obtain ⟨S71, eS71⟩ : ∃ z, z = wR U46 (qO U46 60 5) v46_2.toInt.toNat (some (qO U46 (qO U46 v46_1 5) v46_2.toInt.toNat)) := ⟨_, rfl⟩
        rw [← eS71] at hR
        replace h := h S71 eS71
        have hT_v46_1 : qT S71 v46_1 = 11 := (congrArg (fun z => qT z v46_1) eS71).trans hT_v46_1
        have hsh : shy S S71 := by rw [eS71]; exact hsh
        refine lv_aload_n hx hb dX14_copyHead_69 rfl (lv_at hl 0 rfl) ?_
        refine va_get (D := rD g) (ci := 13) (v := .ref (ad 60)) (C := RX14) (T := TX14) (N := 143) hx hb hts in2X14 hown hR.K hR.P 0 (hR.at14 hR.w.1) rfl 118 (by decide) (hts _ kx_802) (fun _ h9 => h9) (congrArg (fun z => some (vf ad z)) (hR.w.2.1 _ fin_118).1) dX14_copyHead_70 ?_
        obtain ⟨hv72, h⟩ := h
        have hT_b73 : qT S71 (qO S71 60 6) = 5 := hR.w.ref hv72 (hR.w.2.1 _ fin_118).2.1
        refine va_get (D := rD g) (ci := 12) (v := .ref (ad (qO S71 60 6))) (C := RX13) (T := TX13) (N := 23) hx hb hts in2X13 hown hR.K hR.P 60 (hR.at13 (hR.w.2.1 _ fin_118).2.1) rfl 6 (by decide) (hts _ kx_564) (fun _ h9 => h9) (congrArg (fun z => some (vf ad z)) hv72) dX14_copyHead_73 ?_
        refine lv_iload_n hx hb dX14_copyHead_76 rfl (lv_at hl 2 rfl) ?_
        refine lv_aload_n hx hb dX14_copyHead_77 rfl (lv_at hl 1 rfl) ?_
        obtain ⟨hv74, h⟩ := h
        have hT_b75 : qT S71 (qO S71 v46_1 6) = 5 := hR.w.ref hv74 hT_v46_1
        refine va_get (D := rD g) (ci := 12) (v := .ref (ad (qO S71 v46_1 6))) (C := RX13) (T := TX13) (N := 23) hx hb hts in2X13 hown hR.K hR.P v46_1 (hR.at13 hT_v46_1) rfl 6 (by decide) (hts _ kx_564) (fun _ h9 => h9) (congrArg (fun z => some (vf ad z)) hv74) dX14_copyHead_78 ?_
        refine lv_iload_n hx hb dX14_copyHead_81 rfl (lv_at hl 2 rfl) ?_
        obtain ⟨hv76, h⟩ := h
        refine va_aldq hx hb hR.K hR.P (qO S71 v46_1 6) 4 (hR.atS hT_b75) rfl (k_ix (x := v46_2) (a := v46_2.toInt) rfl hv76) dX14_copyHead_82 ?_
        obtain ⟨hv77, h⟩ := h
        have hT_b78 : qT S71 (qO S71 (qO S71 v46_1 6) v46_2.toInt.toNat) = 12 := hR.w.ref hv77 hT_b75
        rw [show va_rf (Option.map ad (qR S71 (qO S71 v46_1 6) (v46_2 : Int32).toNatClampNeg)) = .ref (ad (qO S71 (qO S71 v46_1 6) v46_2.toInt.toNat)) from congrArg (fun z => vf ad z) hv77]
        obtain ⟨hv79, h⟩ := h
        refine va_astqM (E := "java/lang/String") hx hb hR.K hR.P hR.D hR.sS (qO S71 60 6) 4 (hR.atS hT_b73) rfl (any_str hts hR hE hA hT_b78) (k_ix (x := v46_2) (a := v46_2.toInt) rfl hv79) dX14_copyHead_83 (fun H locs hP hD hS => ?_)
        have hw9 : wfM (wR S71 (qO S71 60 6) v46_2.toInt.toNat (some (qO S71 (qO S71 v46_1 6) v46_2.toInt.toNat))) := hR.w.put (fun b q9 => by cases q9; exact (hT_b78).trans (by rw [hT_b73]; rfl)) (fun q9 => absurd ((congrArg (qT S71) q9).symm.trans hT_b73) (by rw [hR.w.1]; decide)) (by rw [hT_b73]; show (12 : Nat) ≠ 0; decide)
        have hR : Rep g ad A s (wR S71 (qO S71 60 6) v46_2.toInt.toNat (some (qO S71 (qO S71 v46_1 6) v46_2.toInt.toNat))) H locs := hR.aS hT_b73 hw9 hP hD hS
        obtain ⟨S80, eS80⟩ : ∃ z, z = wR S71 (qO S71 60 6) v46_2.toInt.toNat (some (qO S71 (qO S71 v46_1 6) v46_2.toInt.toNat)) := ⟨_, rfl⟩
        rw [← eS80] at hR
        replace h := h S80 eS80
        have hT_v46_1 : qT S80 v46_1 = 11 := (congrArg (fun z => qT z v46_1) eS80).trans hT_v46_1
        have hsh : shy S S80 := by rw [eS80]; exact hsh
        refine lv_aload_n hx hb dX14_copyHead_84 rfl (lv_at hl 0 rfl) ?_
        refine va_get (D := rD g) (ci := 13) (v := .ref (ad 60)) (C := RX14) (T := TX14) (N := 143) hx hb hts in2X14 hown hR.K hR.P 0 (hR.at14 hR.w.1) rfl 118 (by decide) (hts _ kx_802) (fun _ h9 => h9) (congrArg (fun z => some (vf ad z)) (hR.w.2.1 _ fin_118).1) dX14_copyHead_85 ?_
        obtain ⟨hv81, h⟩ := h
        have hT_b82 : qT S80 (qO S80 60 7) = 5 := hR.w.ref hv81 (hR.w.2.1 _ fin_118).2.1
        refine va_get (D := rD g) (ci := 12) (v := .ref (ad (qO S80 60 7))) (C := RX13) (T := TX13) (N := 23) hx hb hts in2X13 hown hR.K hR.P 60 (hR.at13 (hR.w.2.1 _ fin_118).2.1) rfl 7 (by decide) (hts _ kx_397) (fun _ h9 => h9) (congrArg (fun z => some (vf ad z)) hv81) dX14_copyHead_88 ?_
        refine lv_iload_n hx hb dX14_copyHead_91 rfl (lv_at hl 2 rfl) ?_
        refine lv_aload_n hx hb dX14_copyHead_92 rfl (lv_at hl 1 rfl) ?_
        obtain ⟨hv83, h⟩ := h
        have hT_b84 : qT S80 (qO S80 v46_1 7) = 5 := hR.w.ref hv83 hT_v46_1
        refine va_get (D := rD g) (ci := 12) (v := .ref (ad (qO S80 v46_1 7))) (C := RX13) (T := TX13) (N := 23) hx hb hts in2X13 hown hR.K hR.P v46_1 (hR.at13 hT_v46_1) rfl 7 (by decide) (hts _ kx_397) (fun _ h9 => h9) (congrArg (fun z => some (vf ad z)) hv83) dX14_copyHead_93 ?_
        refine lv_iload_n hx hb dX14_copyHead_96 rfl (lv_at hl 2 rfl) ?_
        obtain ⟨hv85, h⟩ := h
        refine va_aldq hx hb hR.K hR.P (qO S80 v46_1 7) 4 (hR.atS hT_b84) rfl (k_ix (x := v46_2) (a := v46_2.toInt) rfl hv85) dX14_copyHead_97 ?_
        obtain ⟨hv86, h⟩ := h
        have hT_b87 : qT S80 (qO S80 (qO S80 v46_1 7) v46_2.toInt.toNat) = 12 := hR.w.ref hv86 hT_b84
        rw [show va_rf (Option.map ad (qR S80 (qO S80 v46_1 7) (v46_2 : Int32).toNatClampNeg)) = .ref (ad (qO S80 (qO S80 v46_1 7) v46_2.toInt.toNat)) from congrArg (fun z => vf ad z) hv86]
        obtain ⟨hv88, h⟩ := h
        refine va_astqM (E := "java/lang/String") hx hb hR.K hR.P hR.D hR.sS (qO S80 60 7) 4 (hR.atS hT_b82) rfl (any_str hts hR hE hA hT_b87) (k_ix (x := v46_2) (a := v46_2.toInt) rfl hv88) dX14_copyHead_98 (fun H locs hP hD hS => ?_)
        have hw9 : wfM (wR S80 (qO S80 60 7) v46_2.toInt.toNat (some (qO S80 (qO S80 v46_1 7) v46_2.toInt.toNat))) := hR.w.put (fun b q9 => by cases q9; exact (hT_b87).trans (by rw [hT_b82]; rfl)) (fun q9 => absurd ((congrArg (qT S80) q9).symm.trans hT_b82) (by rw [hR.w.1]; decide)) (by rw [hT_b82]; show (12 : Nat) ≠ 0; decide)
        have hR : Rep g ad A s (wR S80 (qO S80 60 7) v46_2.toInt.toNat (some (qO S80 (qO S80 v46_1 7) v46_2.toInt.toNat))) H locs := hR.aS hT_b82 hw9 hP hD hS
        obtain ⟨S89, eS89⟩ : ∃ z, z = wR S80 (qO S80 60 7) v46_2.toInt.toNat (some (qO S80 (qO S80 v46_1 7) v46_2.toInt.toNat)) := ⟨_, rfl⟩
        rw [← eS89] at hR
        replace h := h S89 eS89
        have hT_v46_1 : qT S89 v46_1 = 11 := (congrArg (fun z => qT z v46_1) eS89).trans hT_v46_1
        have hsh : shy S S89 := by rw [eS89]; exact hsh
        obtain ⟨a90, ea90⟩ : ∃ z, z = (v46_2 + Int32.ofInt 1) := ⟨_, rfl⟩
        replace h := h a90 ea90
        refine lv_iinc (v := a90) (lv' := [(2, .int a90), (0, .ref (ad 0)), (1, .ref (ad v46_1))]) hx hb dX14_copyHead_99 hl (k := 2) rfl ea90.symm (by decide) rfl (fun ls hl => ?_)
        refine lv_goto (tgt := 46) hx hb dX14_copyHead_102 (by decide) ?_
        exact ih_46 S89 v46_1 a90 _ _ ls h hT_v46_1 hsh hR (lv_sub hl [1, 2, 0] rfl)
  obtain ⟨n9, h⟩ := h
  exact J_46 n9 S8 p1 0 _ _ ls h hT_p1 hsh hR (lv_sub hl [1, 2, 0] rfl)
def w_draftRow (S : MS) (x1 : Int32) (x2 : Int32) (x3 : Int32) (Q : MS → Prop) : Prop := (((0 : Int) ≤ ((3 : Int32) * (qI S 0 122)).toInt ∧ ((3 : Int32) * (qI S 0 122)).toInt < 87000) ∧ (∀ S3, S3 = wI S 74 ((((3 : Int32) * (qI S 0 122)).toInt).toNat) x1 → (((0 : Int) ≤ (((3 : Int32) * (qI S3 0 122)) + (1 : Int32)).toInt ∧ (((3 : Int32) * (qI S3 0 122)) + (1 : Int32)).toInt < 87000) ∧ (∀ S7, S7 = wI S3 74 (((((3 : Int32) * (qI S3 0 122)) + (1 : Int32)).toInt).toNat) x2 → (((0 : Int) ≤ (((3 : Int32) * (qI S7 0 122)) + (2 : Int32)).toInt ∧ (((3 : Int32) * (qI S7 0 122)) + (2 : Int32)).toInt < 87000) ∧ (∀ S11, S11 = wI S7 74 (((((3 : Int32) * (qI S7 0 122)) + (2 : Int32)).toInt).toNat) x3 → (∀ S13, S13 = wI S11 0 122 ((qI S11 0 122) + (1 : Int32)) → Q S13)))))))
set_option maxHeartbeats 2000000 in
set_option maxRecDepth 100000 in
theorem r_draftRow (l : Launch) (g : Gr) (ad : Nat → Nat) (sz : Nat) (S : MS) (x1 : Int32) (x2 : Int32) (x3 : Int32) (hw : wfM S) (Q : MS → Prop) (h : w_draftRow S x1 x2 x3 Q) : Met l yX14_draftRow (wt2 yX14_draftRow cX14_draftRow 4 none) ({ frames := 0, cells := 0, slots := 0, locals := 0 }) (va_Pc [.ref (ad 0), .int x1, .int x2, .int x3] (st_R g ad sz S)) (va_Qv (fun (u : MS) => Q u ∧ wfM u ∧ shy S u) (fun (u : MS) (t : State) => qE g ad (va_A (Wd g ad S) sz) u t) (va_A (Wd g ad S) sz)) 0 0 (va_A (Wd g ad S) sz) := by
  refine Met.ofW (cc := cX14_draftRow) (maxL := 4) (ret := none) (by decide) rfl ?_
  intro p e s m args below meth c s₁ B hml hv
  obtain ⟨rfl, hsz, hP, hK, hD0, hex, hE⟩ := hv
  have hx := B.exec
  have hb := B.bytes
  have hr := B.returns
  have hts0 := atoms_spec (ws := wt2 yX14_draftRow cX14_draftRow 4 none) B.pre
  have hts : ∀ w ∈ tb2, w.before _ s = true := fun w h => hts0 w (List.mem_cons_of_mem _ h)
  have hown : s.vm.findClass RX14 = some m.cls := findClass_of_methodNamed B.named
  subst hsz
  have hD := hD0.self (sz := s.heap.size)
  generalize hAe : va_A (Wd g ad S) s.heap.size = A at hD hE ⊢
  have hA : ∀ q : Nat, s.heap.size ≤ q → A q := fun q h => by rw [← hAe]; exact Or.inr h
  have hR : Rep g ad A s S s.heap [] := ⟨hK, hP, hD, va_S.rf, hw⟩
  clear hK hP hD hD0
  have hl := lv_entry ([.ref (ad 0), .int x1, .int x2, .int x3]) (n := 4) (Nat.le_of_ble_eq_true rfl)
  rw [lg_entry_eq]
  generalize (lg_sl ([.ref (ad 0), .int x1, .int x2, .int x3]) ++ List.replicate (4 - (lg_sl ([.ref (ad 0), .int x1, .int x2, .int x3])).length) Slot.unset).toArray = ls at hl ⊢
  have hl : lv_has ls 4 [(0, .ref (ad 0)), (1, .int x1), (2, .int x2), (3, .int x3)] := hl
  have hsh : shy S S := shy.rf
  unfold w_draftRow at h
  refine lv_aload_n hx hb dX14_draftRow_0 rfl (lv_at hl 0 rfl) ?_
  refine va_get (D := rD g) (ci := 13) (v := .ref (ad 74)) (C := RX14) (T := TX14) (N := 143) hx hb hts in2X14 hown hR.K hR.P 0 (hR.at14 hR.w.1) rfl 119 (by decide) (hts _ kx_803) (fun _ h9 => h9) (congrArg (fun z => some (vf ad z)) (hR.w.2.1 _ fin_119).1) dX14_draftRow_1 ?_
  refine lv_iconst (v := 3) hx hb dX14_draftRow_4 (by decide) ?_
  refine lv_aload_n hx hb dX14_draftRow_5 rfl (lv_at hl 0 rfl) ?_
  refine va_get (D := rD g) (ci := 13) (v := .int (qI S 0 122)) (C := RX14) (T := TX14) (N := 143) hx hb hts in2X14 hown hR.K hR.P 0 (hR.at14 hR.w.1) rfl 122 (by decide) (hts _ kx_805) (fun _ h9 => h9) rfl dX14_draftRow_6 ?_
  refine lv_imul hx hb dX14_draftRow_9 ?_
  refine lv_topi (fun z1 ez1 => ?_)
  obtain rfl : z1 = ((3 : Int32) * (qI S 0 122)) := ez1
  refine lv_iload_n hx hb dX14_draftRow_10 rfl (lv_at hl 1 rfl) ?_
  obtain ⟨hv2, h⟩ := h
  refine va_iast hx hb hR.K hR.P hR.D hR.sS 74 1 (hR.atI (hR.w.2.1 _ fin_119).2.1) rfl (k_ixN (k_ix (n := 87000) (x := ((3 : Int32) * (qI S 0 122))) (a := ((3 : Int32) * (qI S 0 122)).toInt) rfl hv2) (hR.w.2.1 _ fin_119).2.2) dX14_draftRow_11 (fun H locs hP hD hS => ?_)
  have hR : Rep g ad A s (wI S 74 ((((3 : Int32) * (qI S 0 122)).toInt).toNat) x1) H locs := hR.aI (hR.w.2.1 _ fin_119).2.1 hP hD hS
  obtain ⟨S3, eS3⟩ : ∃ z, z = wI S 74 ((((3 : Int32) * (qI S 0 122)).toInt).toNat) x1 := ⟨_, rfl⟩
  rw [← eS3] at hR
  replace h := h S3 eS3
  have hsh : shy S S3 := by rw [eS3]; exact hsh
  refine lv_aload_n hx hb dX14_draftRow_12 rfl (lv_at hl 0 rfl) ?_
  refine va_get (D := rD g) (ci := 13) (v := .ref (ad 74)) (C := RX14) (T := TX14) (N := 143) hx hb hts in2X14 hown hR.K hR.P 0 (hR.at14 hR.w.1) rfl 119 (by decide) (hts _ kx_803) (fun _ h9 => h9) (congrArg (fun z => some (vf ad z)) (hR.w.2.1 _ fin_119).1) dX14_draftRow_13 ?_
  refine lv_iconst (v := 3) hx hb dX14_draftRow_16 (by decide) ?_
  refine lv_aload_n hx hb dX14_draftRow_17 rfl (lv_at hl 0 rfl) ?_
  refine va_get (D := rD g) (ci := 13) (v := .int (qI S3 0 122)) (C := RX14) (T := TX14) (N := 143) hx hb hts in2X14 hown hR.K hR.P 0 (hR.at14 hR.w.1) rfl 122 (by decide) (hts _ kx_805) (fun _ h9 => h9) rfl dX14_draftRow_18 ?_
  refine lv_imul hx hb dX14_draftRow_21 ?_
  refine lv_topi (fun z4 ez4 => ?_)
  obtain rfl : z4 = ((3 : Int32) * (qI S3 0 122)) := ez4
  refine lv_iconst (v := 1) hx hb dX14_draftRow_22 (by decide) ?_
  refine lv_iadd hx hb dX14_draftRow_23 ?_
  refine lv_topi (fun z5 ez5 => ?_)
  obtain rfl : z5 = (((3 : Int32) * (qI S3 0 122)) + (1 : Int32)) := ez5
  refine lv_iload_n hx hb dX14_draftRow_24 rfl (lv_at hl 2 rfl) ?_
  obtain ⟨hv6, h⟩ := h
  refine va_iast hx hb hR.K hR.P hR.D hR.sS 74 1 (hR.atI (hR.w.2.1 _ fin_119).2.1) rfl (k_ixN (k_ix (n := 87000) (x := (((3 : Int32) * (qI S3 0 122)) + (1 : Int32))) (a := (((3 : Int32) * (qI S3 0 122)) + (1 : Int32)).toInt) rfl hv6) (hR.w.2.1 _ fin_119).2.2) dX14_draftRow_25 (fun H locs hP hD hS => ?_)
  have hR : Rep g ad A s (wI S3 74 (((((3 : Int32) * (qI S3 0 122)) + (1 : Int32)).toInt).toNat) x2) H locs := hR.aI (hR.w.2.1 _ fin_119).2.1 hP hD hS
  obtain ⟨S7, eS7⟩ : ∃ z, z = wI S3 74 (((((3 : Int32) * (qI S3 0 122)) + (1 : Int32)).toInt).toNat) x2 := ⟨_, rfl⟩
  rw [← eS7] at hR
  replace h := h S7 eS7
  have hsh : shy S S7 := by rw [eS7]; exact hsh
  refine lv_aload_n hx hb dX14_draftRow_26 rfl (lv_at hl 0 rfl) ?_
  refine va_get (D := rD g) (ci := 13) (v := .ref (ad 74)) (C := RX14) (T := TX14) (N := 143) hx hb hts in2X14 hown hR.K hR.P 0 (hR.at14 hR.w.1) rfl 119 (by decide) (hts _ kx_803) (fun _ h9 => h9) (congrArg (fun z => some (vf ad z)) (hR.w.2.1 _ fin_119).1) dX14_draftRow_27 ?_
  refine lv_iconst (v := 3) hx hb dX14_draftRow_30 (by decide) ?_
  refine lv_aload_n hx hb dX14_draftRow_31 rfl (lv_at hl 0 rfl) ?_
  refine va_get (D := rD g) (ci := 13) (v := .int (qI S7 0 122)) (C := RX14) (T := TX14) (N := 143) hx hb hts in2X14 hown hR.K hR.P 0 (hR.at14 hR.w.1) rfl 122 (by decide) (hts _ kx_805) (fun _ h9 => h9) rfl dX14_draftRow_32 ?_
  refine lv_imul hx hb dX14_draftRow_35 ?_
  refine lv_topi (fun z8 ez8 => ?_)
  obtain rfl : z8 = ((3 : Int32) * (qI S7 0 122)) := ez8
  refine lv_iconst (v := 2) hx hb dX14_draftRow_36 (by decide) ?_
  refine lv_iadd hx hb dX14_draftRow_37 ?_
  refine lv_topi (fun z9 ez9 => ?_)
  obtain rfl : z9 = (((3 : Int32) * (qI S7 0 122)) + (2 : Int32)) := ez9
  refine lv_iload_n hx hb dX14_draftRow_38 rfl (lv_at hl 3 rfl) ?_
  obtain ⟨hv10, h⟩ := h
  refine va_iast hx hb hR.K hR.P hR.D hR.sS 74 1 (hR.atI (hR.w.2.1 _ fin_119).2.1) rfl (k_ixN (k_ix (n := 87000) (x := (((3 : Int32) * (qI S7 0 122)) + (2 : Int32))) (a := (((3 : Int32) * (qI S7 0 122)) + (2 : Int32)).toInt) rfl hv10) (hR.w.2.1 _ fin_119).2.2) dX14_draftRow_39 (fun H locs hP hD hS => ?_)
  have hR : Rep g ad A s (wI S7 74 (((((3 : Int32) * (qI S7 0 122)) + (2 : Int32)).toInt).toNat) x3) H locs := hR.aI (hR.w.2.1 _ fin_119).2.1 hP hD hS
  obtain ⟨S11, eS11⟩ : ∃ z, z = wI S7 74 (((((3 : Int32) * (qI S7 0 122)) + (2 : Int32)).toInt).toNat) x3 := ⟨_, rfl⟩
  rw [← eS11] at hR
  replace h := h S11 eS11
  have hsh : shy S S11 := by rw [eS11]; exact hsh
  refine lv_aload_n hx hb dX14_draftRow_40 rfl (lv_at hl 0 rfl) ?_
  refine lv_dup hx hb dX14_draftRow_41 rfl ?_
  refine va_get (D := rD g) (ci := 13) (v := .int (qI S11 0 122)) (C := RX14) (T := TX14) (N := 143) hx hb hts in2X14 hown hR.K hR.P 0 (hR.at14 hR.w.1) rfl 122 (by decide) (hts _ kx_805) (fun _ h9 => h9) rfl dX14_draftRow_42 ?_
  refine lv_iconst (v := 1) hx hb dX14_draftRow_45 (by decide) ?_
  refine lv_iadd hx hb dX14_draftRow_46 ?_
  refine lv_topi (fun z12 ez12 => ?_)
  obtain rfl : z12 = ((qI S11 0 122) + (1 : Int32)) := ez12
  refine va_put (D := rD g) (ci := 13) (v := .int ((qI S11 0 122) + (1 : Int32))) (ty := .int) (C := RX14) (T := TX14) (N := 143) hx hb hts in2X14 tyX14 tyX14_ok nmX14 hown hR.K hR.P hR.D hR.sS 0 (hR.at14 hR.w.1) rfl 122 (by decide) (hts _ kx_805) (fun _ h9 => h9) rfl (by decide +kernel) rfl rfl (Nat.le_of_ble_eq_true rfl) dX14_draftRow_47 (fun H locs hP hD hS => ?_)
  have hR : Rep g ad A s (wI S11 0 122 ((qI S11 0 122) + (1 : Int32))) H locs := hR.pI hR.w.1 F14_s122 hP hD hS
  obtain ⟨S13, eS13⟩ : ∃ z, z = wI S11 0 122 ((qI S11 0 122) + (1 : Int32)) := ⟨_, rfl⟩
  rw [← eS13] at hR
  replace h := h S13 eS13
  have hsh : shy S S13 := by rw [eS13]; exact hsh
  exact W.vret hx hb hr (fun t9 ht9 hW9 => ⟨⟨S13, rfl, ⟨h, hR.w, hsh⟩, ⟨by rw [ht9]; exact hR.P, hR.D⟩⟩, hR.sS.F ht9⟩) hR.sS.2.2 dX14_draftRow_50
def w_aimRow_L52 (Q : MS → Prop) : Nat → MS → Int32 → Int32 → Prop
  | 0, _, _, _ => False
  | n52 + 1, U52, v52_1, v52_3 => (((0 : Int) ≤ v52_1.toInt ∧ v52_1.toInt < 1200) ∧ (((qI U52 80 v52_1.toInt.toNat).toInt < v52_3.toInt → Q U52) ∧ (¬ (qI U52 80 v52_1.toInt.toNat).toInt < v52_3.toInt → (((0 : Int) ≤ v52_1.toInt ∧ v52_1.toInt < 1200) ∧ (((0 : Int) ≤ v52_1.toInt ∧ v52_1.toInt < 1200) ∧ (((0 : Int) ≤ ((qI U52 79 v52_1.toInt.toNat) + ((2 : Int32) * v52_3)).toInt ∧ ((qI U52 79 v52_1.toInt.toNat) + ((2 : Int32) * v52_3)).toInt < 40000) ∧ (∃ Q25, w_here U52 (qI U52 75 ((((qI U52 79 v52_1.toInt.toNat) + ((2 : Int32) * v52_3)).toInt).toNat)) Q25 ∧ ∀ r26 S27, Q25 r26 S27 → (((0 : Int) ≤ r26.toInt ∧ r26.toInt < 1201) ∧ (((0 : Int) ≤ ((qI U52 79 v52_1.toInt.toNat) + ((2 : Int32) * v52_3)).toInt ∧ ((qI U52 79 v52_1.toInt.toNat) + ((2 : Int32) * v52_3)).toInt < 40000) ∧ (∀ S32, S32 = wI S27 75 ((((qI U52 79 v52_1.toInt.toNat) + ((2 : Int32) * v52_3)).toInt).toNat) (qI S27 91 r26.toInt.toNat) → (∀ a33 : Int32, a33 = (v52_3 + Int32.ofInt 1) → (w_aimRow_L52 Q n52) S32 v52_1 a33)))))))))))
def w_aimRow_J37 (Q : MS → Prop) (U37 : MS) (v37_1 : Int32) : Prop := (((0 : Int) ≤ v37_1.toInt ∧ v37_1.toInt < 1200) ∧ (d_isSwitch U37 (qI U37 78 v37_1.toInt.toNat) ∧ (((f_isSwitch U37 (qI U37 78 v37_1.toInt.toNat)).toInt = 0 → Q U37) ∧ (¬ (f_isSwitch U37 (qI U37 78 v37_1.toInt.toNat)).toInt = 0 → (∃ n, w_aimRow_L52 Q n U37 v37_1 0)))))
def w_aimRow (S : MS) (x1 : Int32) (x2 : Int32) (Q : MS → Prop) : Prop := (((0 : Int) ≤ x1.toInt ∧ x1.toInt < 1200) ∧ (d_isJump S (qI S 78 x1.toInt.toNat) ∧ (((f_isJump S (qI S 78 x1.toInt.toNat)).toInt = 0 → w_aimRow_J37 Q S x1) ∧ (¬ (f_isJump S (qI S 78 x1.toInt.toNat)).toInt = 0 → (((0 : Int) ≤ x1.toInt ∧ x1.toInt < 1200) ∧ (∃ Q39, w_here S (qI S 79 x1.toInt.toNat) Q39 ∧ ∀ r40 S41, Q39 r40 S41 → (((0 : Int) ≤ r40.toInt ∧ r40.toInt < 1201) ∧ (((0 : Int) ≤ (((3 : Int32) * x2) + (1 : Int32)).toInt ∧ (((3 : Int32) * x2) + (1 : Int32)).toInt < 87000) ∧ (∀ S46, S46 = wI S41 74 (((((3 : Int32) * x2) + (1 : Int32)).toInt).toNat) (qI S41 91 r40.toInt.toNat) → w_aimRow_J37 Q S46 x1)))))))))
set_option maxHeartbeats 2000000 in
set_option maxRecDepth 100000 in
theorem r_aimRow (l : Launch) (g : Gr) (ad : Nat → Nat) (sz : Nat) (S : MS) (x1 : Int32) (x2 : Int32) (hw : wfM S) (Q : MS → Prop) (h : w_aimRow S x1 x2 Q) : Met l yX14_aimRow (wt2 yX14_aimRow cX14_aimRow 4 none) ({ frames := 1, cells := 0, slots := 0, locals := 22 }) (va_Pc [.ref (ad 0), .int x1, .int x2] (st_R g ad sz S)) (va_Qv (fun (u : MS) => Q u ∧ wfM u ∧ shy S u) (fun (u : MS) (t : State) => qE g ad (va_A (Wd g ad S) sz) u t) (va_A (Wd g ad S) sz)) 0 0 (va_A (Wd g ad S) sz) := by
  refine Met.ofW (cc := cX14_aimRow) (maxL := 4) (ret := none) (by decide) rfl ?_
  intro p e s m args below meth c s₁ B hml hv
  obtain ⟨rfl, hsz, hP, hK, hD0, hex, hE⟩ := hv
  have hx := B.exec
  have hb := B.bytes
  have hr := B.returns
  have hts0 := atoms_spec (ws := wt2 yX14_aimRow cX14_aimRow 4 none) B.pre
  have hts : ∀ w ∈ tb2, w.before _ s = true := fun w h => hts0 w (List.mem_cons_of_mem _ h)
  have hown : s.vm.findClass RX14 = some m.cls := findClass_of_methodNamed B.named
  subst hsz
  have hD := hD0.self (sz := s.heap.size)
  generalize hAe : va_A (Wd g ad S) s.heap.size = A at hD hE ⊢
  have hA : ∀ q : Nat, s.heap.size ≤ q → A q := fun q h => by rw [← hAe]; exact Or.inr h
  have hR : Rep g ad A s S s.heap [] := ⟨hK, hP, hD, va_S.rf, hw⟩
  clear hK hP hD hD0
  have hl := lv_entry ([.ref (ad 0), .int x1, .int x2]) (n := 4) (Nat.le_of_ble_eq_true rfl)
  rw [lg_entry_eq]
  generalize (lg_sl ([.ref (ad 0), .int x1, .int x2]) ++ List.replicate (4 - (lg_sl ([.ref (ad 0), .int x1, .int x2])).length) Slot.unset).toArray = ls at hl ⊢
  have hl : lv_has ls 4 [(0, .ref (ad 0)), (1, .int x1), (2, .int x2)] := hl
  have hsh : shy S S := shy.rf
  unfold w_aimRow at h
  refine lv_aload_n hx hb dX14_aimRow_0 rfl (lv_at hl 0 rfl) ?_
  refine va_get (D := rD g) (ci := 13) (v := .ref (ad 78)) (C := RX14) (T := TX14) (N := 143) hx hb hts in2X14 hown hR.K hR.P 0 (hR.at14 hR.w.1) rfl 125 (by decide) (hts _ kx_697) (fun _ h9 => h9) (congrArg (fun z => some (vf ad z)) (hR.w.2.1 _ fin_125).1) dX14_aimRow_1 ?_
  refine lv_iload_n hx hb dX14_aimRow_4 rfl (lv_at hl 1 rfl) ?_
  obtain ⟨hv1, h⟩ := h
  refine va_iald hx hb hR.K hR.P 78 1 (hR.atI (hR.w.2.1 _ fin_125).2.1) rfl (k_ixN (k_ix (n := 1200) (x := x1) (a := x1.toInt) rfl hv1) (hR.w.2.1 _ fin_125).2.2) dX14_aimRow_5 ?_
  refine lv_topi (fun z2 ez2 => ?_)
  obtain rfl : z2 = (qI S 78 x1.toInt.toNat) := ez2
  obtain ⟨hv3, h⟩ := h
  have hFc := rfree hR hA
  refine va_calli (va_runS (As := [.int (qI S 78 x1.toInt.toNat)]) (rest := []) ⟨hx, hb, hml, hown, hts⟩ (r_isJump l g ad s.heap.size S (qI S 78 x1.toInt.toNat) hR.w  hv3) (va_cwS 1 hts (gd2_S kx_383 kx_384 kx_177 kx_385) rfl rfl rfl (by decide +kernel) ⟨Nat.le_of_ble_eq_true rfl, Nat.le_of_ble_eq_true rfl⟩) ⟨rblind, fun U hU hW9 => rmk hU hW9 hR hex hE hFc⟩ rfl rfl hl.1 rfl (lv_room (Nat.le_of_ble_eq_true rfl)) dX14_aimRow_6 ⟨Nat.le_of_ble_eq_true rfl, Nat.le_of_ble_eq_true rfl⟩) hR.sS (fun q _ h => hFc q h) hFc (fun r4 u9 t9 H1 locs ht9 hvm9 hw9 hB9 hz9 hk9 hS => ?_)
  have hR : Rep g ad A s S H1 locs := hR.call ht9 hB9 hR.w hS hFc
  obtain ⟨rfl, hz_r4⟩ := hw9
  clear hB9 hz9 hk9 hvm9 ht9 hS
  generalize H1 = H at hR ⊢
  have J_37 : ∀ (U37 : MS) (v37_1 : Int32) (H : Heap) (locs : List Loc) (ls : Array Slot), w_aimRow_J37 Q U37 v37_1 → shy S U37 → Rep g ad A s U37 H locs → lv_has ls 4 [(0, .ref (ad 0)), (1, .int v37_1)] → W p l e (headSpec (wt2 yX14_aimRow cX14_aimRow 4 none) ({ frames := 1, cells := 0, slots := 0, locals := 22 })).room s m ([.ref (ad 0), .int x1, .int x2] : List Value).toArray below meth c H locs 0 0 (MQ below (va_Qv (fun (u : MS) => Q u ∧ wfM u ∧ shy S u) (fun (u : MS) (t : State) => qE g ad A u t) A) ([.ref (ad 0), .int x1, .int x2] : List Value).toArray s 0 0 A) (F0 m 37 ls []) := by
    intro U37 v37_1 H locs ls h hsh hR hl
    unfold w_aimRow_J37 at h
    refine lv_aload_n hx hb dX14_aimRow_37 rfl (lv_at hl 0 rfl) ?_
    refine va_get (D := rD g) (ci := 13) (v := .ref (ad 78)) (C := RX14) (T := TX14) (N := 143) hx hb hts in2X14 hown hR.K hR.P 0 (hR.at14 hR.w.1) rfl 125 (by decide) (hts _ kx_697) (fun _ h9 => h9) (congrArg (fun z => some (vf ad z)) (hR.w.2.1 _ fin_125).1) dX14_aimRow_38 ?_
    refine lv_iload_n hx hb dX14_aimRow_41 rfl (lv_at hl 1 rfl) ?_
    obtain ⟨hv6, h⟩ := h
    refine va_iald hx hb hR.K hR.P 78 1 (hR.atI (hR.w.2.1 _ fin_125).2.1) rfl (k_ixN (k_ix (n := 1200) (x := v37_1) (a := v37_1.toInt) rfl hv6) (hR.w.2.1 _ fin_125).2.2) dX14_aimRow_42 ?_
    refine lv_topi (fun z7 ez7 => ?_)
    obtain rfl : z7 = (qI U37 78 v37_1.toInt.toNat) := ez7
    obtain ⟨hv8, h⟩ := h
    have hFc := rfree hR hA
    refine va_calli (va_runS (As := [.int (qI U37 78 v37_1.toInt.toNat)]) (rest := []) ⟨hx, hb, hml, hown, hts⟩ (r_isSwitch l g ad H.size U37 (qI U37 78 v37_1.toInt.toNat) hR.w  hv8) (va_cwS 1 hts (gd2_S kx_386 kx_387 kx_177 kx_388) rfl rfl rfl (by decide +kernel) ⟨Nat.le_of_ble_eq_true rfl, Nat.le_of_ble_eq_true rfl⟩) ⟨rblind, fun U hU hW9 => rmk hU hW9 hR hex hE hFc⟩ rfl rfl hl.1 rfl (lv_room (Nat.le_of_ble_eq_true rfl)) dX14_aimRow_43 ⟨Nat.le_of_ble_eq_true rfl, Nat.le_of_ble_eq_true rfl⟩) hR.sS (fun q _ h => hFc q h) hFc (fun r9 u9 t9 H1 locs ht9 hvm9 hw9 hB9 hz9 hk9 hS => ?_)
    have hR : Rep g ad A s U37 H1 locs := hR.call ht9 hB9 hR.w hS hFc
    obtain ⟨rfl, hz_r9⟩ := hw9
    clear hB9 hz9 hk9 hvm9 ht9 hS
    generalize H1 = H at hR ⊢
    refine lv_if_ne (tgt := 50) hx hb dX14_aimRow_46 (by decide) (fun c11 => ?_) (fun c11 => ?_)
    · replace h := h.2 (k_ne rfl (by decide) c11)
      refine lv_iconst (v := 0) hx hb dX14_aimRow_50 (by decide) ?_
      refine lv_istore_n (lv' := [(3, .int 0), (0, .ref (ad 0)), (1, .int v37_1)]) hx hb dX14_aimRow_51 rfl hl (by decide) rfl (fun ls hl => ?_)
      have J_52 : ∀ (n52 : Nat) (U52 : MS) (v52_1 : Int32) (v52_3 : Int32) (H : Heap) (locs : List Loc) (ls : Array Slot), w_aimRow_L52 Q n52 U52 v52_1 v52_3 → shy S U52 → Rep g ad A s U52 H locs → lv_has ls 4 [(0, .ref (ad 0)), (1, .int v52_1), (3, .int v52_3)] → W p l e (headSpec (wt2 yX14_aimRow cX14_aimRow 4 none) ({ frames := 1, cells := 0, slots := 0, locals := 22 })).room s m ([.ref (ad 0), .int x1, .int x2] : List Value).toArray below meth c H locs 0 0 (MQ below (va_Qv (fun (u : MS) => Q u ∧ wfM u ∧ shy S u) (fun (u : MS) (t : State) => qE g ad A u t) A) ([.ref (ad 0), .int x1, .int x2] : List Value).toArray s 0 0 A) (F0 m 52 ls []) := by
        intro n52
        induction n52 with
        | zero => intro U52 v52_1 v52_3 H locs ls h hsh hR hl; unfold w_aimRow_L52 at h; exact h.elim
        | succ n52 ih_52 =>
          intro U52 v52_1 v52_3 H locs ls h hsh hR hl
          unfold w_aimRow_L52 at h
          refine lv_iload_n hx hb dX14_aimRow_52 rfl (lv_at hl 2 rfl) ?_
          refine lv_aload_n hx hb dX14_aimRow_53 rfl (lv_at hl 0 rfl) ?_
          refine va_get (D := rD g) (ci := 13) (v := .ref (ad 80)) (C := RX14) (T := TX14) (N := 143) hx hb hts in2X14 hown hR.K hR.P 0 (hR.at14 hR.w.1) rfl 127 (by decide) (hts _ kx_698) (fun _ h9 => h9) (congrArg (fun z => some (vf ad z)) (hR.w.2.1 _ fin_127).1) dX14_aimRow_54 ?_
          refine lv_iload_n hx hb dX14_aimRow_57 rfl (lv_at hl 1 rfl) ?_
          obtain ⟨hv12, h⟩ := h
          refine va_iald hx hb hR.K hR.P 80 1 (hR.atI (hR.w.2.1 _ fin_127).2.1) rfl (k_ixN (k_ix (n := 1200) (x := v52_1) (a := v52_1.toInt) rfl hv12) (hR.w.2.1 _ fin_127).2.2) dX14_aimRow_58 ?_
          refine lv_topi (fun z13 ez13 => ?_)
          obtain rfl : z13 = (qI U52 80 v52_1.toInt.toNat) := ez13
          refine lv_icmp_gt (tgt := 107) hx hb dX14_aimRow_59 (by decide) (fun c14 => ?_) (fun c14 => ?_)
          · replace h := h.1 (k_lt rfl rfl c14)
            exact W.vret hx hb hr (fun t9 ht9 hW9 => ⟨⟨U52, rfl, ⟨h, hR.w, hsh⟩, ⟨by rw [ht9]; exact hR.P, hR.D⟩⟩, hR.sS.F ht9⟩) hR.sS.2.2 dX14_aimRow_107
          · replace h := h.2 (k_nlt rfl rfl c14)
            refine lv_aload_n hx hb dX14_aimRow_62 rfl (lv_at hl 0 rfl) ?_
            refine va_get (D := rD g) (ci := 13) (v := .ref (ad 75)) (C := RX14) (T := TX14) (N := 143) hx hb hts in2X14 hown hR.K hR.P 0 (hR.at14 hR.w.1) rfl 120 (by decide) (hts _ kx_699) (fun _ h9 => h9) (congrArg (fun z => some (vf ad z)) (hR.w.2.1 _ fin_120).1) dX14_aimRow_63 ?_
            refine lv_aload_n hx hb dX14_aimRow_66 rfl (lv_at hl 0 rfl) ?_
            refine va_get (D := rD g) (ci := 13) (v := .ref (ad 79)) (C := RX14) (T := TX14) (N := 143) hx hb hts in2X14 hown hR.K hR.P 0 (hR.at14 hR.w.1) rfl 126 (by decide) (hts _ kx_700) (fun _ h9 => h9) (congrArg (fun z => some (vf ad z)) (hR.w.2.1 _ fin_126).1) dX14_aimRow_67 ?_
            refine lv_iload_n hx hb dX14_aimRow_70 rfl (lv_at hl 1 rfl) ?_
            obtain ⟨hv15, h⟩ := h
            refine va_iald hx hb hR.K hR.P 79 1 (hR.atI (hR.w.2.1 _ fin_126).2.1) rfl (k_ixN (k_ix (n := 1200) (x := v52_1) (a := v52_1.toInt) rfl hv15) (hR.w.2.1 _ fin_126).2.2) dX14_aimRow_71 ?_
            refine lv_topi (fun z16 ez16 => ?_)
            obtain rfl : z16 = (qI U52 79 v52_1.toInt.toNat) := ez16
            refine lv_iconst (v := 2) hx hb dX14_aimRow_72 (by decide) ?_
            refine lv_iload_n hx hb dX14_aimRow_73 rfl (lv_at hl 2 rfl) ?_
            refine lv_imul hx hb dX14_aimRow_74 ?_
            refine lv_topi (fun z17 ez17 => ?_)
            obtain rfl : z17 = ((2 : Int32) * v52_3) := ez17
            refine lv_iadd hx hb dX14_aimRow_75 ?_
            refine lv_topi (fun z18 ez18 => ?_)
            obtain rfl : z18 = ((qI U52 79 v52_1.toInt.toNat) + ((2 : Int32) * v52_3)) := ez18
            refine lv_aload_n hx hb dX14_aimRow_76 rfl (lv_at hl 0 rfl) ?_
            refine va_get (D := rD g) (ci := 13) (v := .ref (ad 91)) (C := RX14) (T := TX14) (N := 143) hx hb hts in2X14 hown hR.K hR.P 0 (hR.at14 hR.w.1) rfl 141 (by decide) (hts _ kx_807) (fun _ h9 => h9) (congrArg (fun z => some (vf ad z)) (hR.w.2.1 _ fin_141).1) dX14_aimRow_77 ?_
            refine lv_aload_n hx hb dX14_aimRow_80 rfl (lv_at hl 0 rfl) ?_
            refine lv_aload_n hx hb dX14_aimRow_81 rfl (lv_at hl 0 rfl) ?_
            refine va_get (D := rD g) (ci := 13) (v := .ref (ad 75)) (C := RX14) (T := TX14) (N := 143) hx hb hts in2X14 hown hR.K hR.P 0 (hR.at14 hR.w.1) rfl 120 (by decide) (hts _ kx_699) (fun _ h9 => h9) (congrArg (fun z => some (vf ad z)) (hR.w.2.1 _ fin_120).1) dX14_aimRow_82 ?_
            refine lv_aload_n hx hb dX14_aimRow_85 rfl (lv_at hl 0 rfl) ?_
            refine va_get (D := rD g) (ci := 13) (v := .ref (ad 79)) (C := RX14) (T := TX14) (N := 143) hx hb hts in2X14 hown hR.K hR.P 0 (hR.at14 hR.w.1) rfl 126 (by decide) (hts _ kx_700) (fun _ h9 => h9) (congrArg (fun z => some (vf ad z)) (hR.w.2.1 _ fin_126).1) dX14_aimRow_86 ?_
            refine lv_iload_n hx hb dX14_aimRow_89 rfl (lv_at hl 1 rfl) ?_
            obtain ⟨hv19, h⟩ := h
            refine va_iald hx hb hR.K hR.P 79 1 (hR.atI (hR.w.2.1 _ fin_126).2.1) rfl (k_ixN (k_ix (n := 1200) (x := v52_1) (a := v52_1.toInt) rfl hv19) (hR.w.2.1 _ fin_126).2.2) dX14_aimRow_90 ?_
            refine lv_topi (fun z20 ez20 => ?_)
            obtain rfl : z20 = (qI U52 79 v52_1.toInt.toNat) := ez20
            refine lv_iconst (v := 2) hx hb dX14_aimRow_91 (by decide) ?_
            refine lv_iload_n hx hb dX14_aimRow_92 rfl (lv_at hl 2 rfl) ?_
            refine lv_imul hx hb dX14_aimRow_93 ?_
            refine lv_topi (fun z21 ez21 => ?_)
            obtain rfl : z21 = ((2 : Int32) * v52_3) := ez21
            refine lv_iadd hx hb dX14_aimRow_94 ?_
            refine lv_topi (fun z22 ez22 => ?_)
            obtain rfl : z22 = ((qI U52 79 v52_1.toInt.toNat) + ((2 : Int32) * v52_3)) := ez22
            obtain ⟨hv23, h⟩ := h
            refine va_iald hx hb hR.K hR.P 75 1 (hR.atI (hR.w.2.1 _ fin_120).2.1) rfl (k_ixN (k_ix (n := 40000) (x := ((qI U52 79 v52_1.toInt.toNat) + ((2 : Int32) * v52_3))) (a := ((qI U52 79 v52_1.toInt.toNat) + ((2 : Int32) * v52_3)).toInt) rfl hv23) (hR.w.2.1 _ fin_120).2.2) dX14_aimRow_95 ?_
            refine lv_topi (fun z24 ez24 => ?_)
            obtain rfl : z24 = (qI U52 75 ((((qI U52 79 v52_1.toInt.toNat) + ((2 : Int32) * v52_3)).toInt).toNat)) := ez24
            obtain ⟨Q25, h0, h⟩ := h
            have hFc := rfree hR hA
            refine va_calli (va_runV (As := [.int (qI U52 75 ((((qI U52 79 v52_1.toInt.toNat) + ((2 : Int32) * v52_3)).toInt).toNat))]) (rest := [.ref (ad 91), .int ((qI U52 79 v52_1.toInt.toNat) + ((2 : Int32) * v52_3)), .ref (ad 75)]) ⟨hx, hb, hml, hown, hts⟩ (r_here l g ad H.size U52 (qI U52 75 ((((qI U52 79 v52_1.toInt.toNat) + ((2 : Int32) * v52_3)).toInt).toNat)) hR.w  Q25 h0) (cwV 1 hts (gd2_V kx_693 kx_694 kx_695 kx_177 kx_696) rfl rfl rfl (by decide +kernel) ⟨Nat.le_of_ble_eq_true rfl, Nat.le_of_ble_eq_true rfl⟩) ⟨rblind, va_recv hR.K hR.P (ci := 13) (q0 := 0) rfl (hR.at14 hR.w.1), fun U hU hW9 => rmk hU hW9 hR hex hE hFc⟩ rfl rfl hl.1 rfl (lv_room (Nat.le_of_ble_eq_true rfl)) dX14_aimRow_96 ⟨Nat.le_of_ble_eq_true rfl, Nat.le_of_ble_eq_true rfl⟩) hR.sS (fun q _ h => hFc q h) hFc (fun r26 S27 t9 H1 locs ht9 hvm9 hw9 hB9 hz9 hk9 hS => ?_)
            obtain ⟨hq28, hw9, hs9⟩ := hw9
            have hR : Rep g ad A s S27 H1 locs := hR.call ht9 hB9 hw9 hS hFc
            have hsh := hsh.tr hs9
            replace h := h r26 S27 hq28
            clear hB9 hz9 hk9 hvm9 ht9 hw9 hs9 hS
            generalize H1 = H at hR ⊢
            obtain ⟨hv29, h⟩ := h
            refine va_iald hx hb hR.K hR.P 91 1 (hR.atI (hR.w.2.1 _ fin_141).2.1) rfl (k_ixN (k_ix (n := 1201) (x := r26) (a := r26.toInt) rfl hv29) (hR.w.2.1 _ fin_141).2.2) dX14_aimRow_99 ?_
            refine lv_topi (fun z30 ez30 => ?_)
            obtain rfl : z30 = (qI S27 91 r26.toInt.toNat) := ez30
            obtain ⟨hv31, h⟩ := h
            refine va_iast hx hb hR.K hR.P hR.D hR.sS 75 1 (hR.atI (hR.w.2.1 _ fin_120).2.1) rfl (k_ixN (k_ix (n := 40000) (x := ((qI U52 79 v52_1.toInt.toNat) + ((2 : Int32) * v52_3))) (a := ((qI U52 79 v52_1.toInt.toNat) + ((2 : Int32) * v52_3)).toInt) rfl hv31) (hR.w.2.1 _ fin_120).2.2) dX14_aimRow_100 (fun H locs hP hD hS => ?_)
            have hR : Rep g ad A s (wI S27 75 ((((qI U52 79 v52_1.toInt.toNat) + ((2 : Int32) * v52_3)).toInt).toNat) (qI S27 91 r26.toInt.toNat)) H locs := hR.aI (hR.w.2.1 _ fin_120).2.1 hP hD hS
            obtain ⟨S32, eS32⟩ : ∃ z, z = wI S27 75 ((((qI U52 79 v52_1.toInt.toNat) + ((2 : Int32) * v52_3)).toInt).toNat) (qI S27 91 r26.toInt.toNat) := ⟨_, rfl⟩
            rw [← eS32] at hR
            replace h := h S32 eS32
            have hsh : shy S S32 := by rw [eS32]; exact hsh
            obtain ⟨a33, ea33⟩ : ∃ z, z = (v52_3 + Int32.ofInt 1) := ⟨_, rfl⟩
            replace h := h a33 ea33
            refine lv_iinc (v := a33) (lv' := [(3, .int a33), (0, .ref (ad 0)), (1, .int v52_1)]) hx hb dX14_aimRow_101 hl (k := 2) rfl ea33.symm (by decide) rfl (fun ls hl => ?_)
            refine lv_goto (tgt := 52) hx hb dX14_aimRow_104 (by decide) ?_
            exact ih_52 S32 v52_1 a33 _ _ ls h  hsh hR (lv_sub hl [1, 2, 0] rfl)
      obtain ⟨n9, h⟩ := h
      exact J_52 n9 U37 v37_1 0 _ _ ls h  hsh hR (lv_sub hl [1, 2, 0] rfl)
    · replace h := h.1 (k_eq rfl (by decide) c11)
      exact W.vret hx hb hr (fun t9 ht9 hW9 => ⟨⟨U37, rfl, ⟨h, hR.w, hsh⟩, ⟨by rw [ht9]; exact hR.P, hR.D⟩⟩, hR.sS.F ht9⟩) hR.sS.2.2 dX14_aimRow_49
  refine lv_if_eq (tgt := 37) hx hb dX14_aimRow_9 (by decide) (fun c34 => ?_) (fun c34 => ?_)
  · replace h := h.1 (k_eq rfl (by decide) c34)
    exact J_37 S x1 _ _ ls h  hsh hR (lv_sub hl [0, 1] rfl)
  · replace h := h.2 (k_ne rfl (by decide) c34)
    refine lv_aload_n hx hb dX14_aimRow_12 rfl (lv_at hl 0 rfl) ?_
    refine va_get (D := rD g) (ci := 13) (v := .ref (ad 74)) (C := RX14) (T := TX14) (N := 143) hx hb hts in2X14 hown hR.K hR.P 0 (hR.at14 hR.w.1) rfl 119 (by decide) (hts _ kx_803) (fun _ h9 => h9) (congrArg (fun z => some (vf ad z)) (hR.w.2.1 _ fin_119).1) dX14_aimRow_13 ?_
    refine lv_iconst (v := 3) hx hb dX14_aimRow_16 (by decide) ?_
    refine lv_iload_n hx hb dX14_aimRow_17 rfl (lv_at hl 2 rfl) ?_
    refine lv_imul hx hb dX14_aimRow_18 ?_
    refine lv_topi (fun z35 ez35 => ?_)
    obtain rfl : z35 = ((3 : Int32) * x2) := ez35
    refine lv_iconst (v := 1) hx hb dX14_aimRow_19 (by decide) ?_
    refine lv_iadd hx hb dX14_aimRow_20 ?_
    refine lv_topi (fun z36 ez36 => ?_)
    obtain rfl : z36 = (((3 : Int32) * x2) + (1 : Int32)) := ez36
    refine lv_aload_n hx hb dX14_aimRow_21 rfl (lv_at hl 0 rfl) ?_
    refine va_get (D := rD g) (ci := 13) (v := .ref (ad 91)) (C := RX14) (T := TX14) (N := 143) hx hb hts in2X14 hown hR.K hR.P 0 (hR.at14 hR.w.1) rfl 141 (by decide) (hts _ kx_807) (fun _ h9 => h9) (congrArg (fun z => some (vf ad z)) (hR.w.2.1 _ fin_141).1) dX14_aimRow_22 ?_
    refine lv_aload_n hx hb dX14_aimRow_25 rfl (lv_at hl 0 rfl) ?_
    refine lv_aload_n hx hb dX14_aimRow_26 rfl (lv_at hl 0 rfl) ?_
    refine va_get (D := rD g) (ci := 13) (v := .ref (ad 79)) (C := RX14) (T := TX14) (N := 143) hx hb hts in2X14 hown hR.K hR.P 0 (hR.at14 hR.w.1) rfl 126 (by decide) (hts _ kx_700) (fun _ h9 => h9) (congrArg (fun z => some (vf ad z)) (hR.w.2.1 _ fin_126).1) dX14_aimRow_27 ?_
    refine lv_iload_n hx hb dX14_aimRow_30 rfl (lv_at hl 1 rfl) ?_
    obtain ⟨hv37, h⟩ := h
    refine va_iald hx hb hR.K hR.P 79 1 (hR.atI (hR.w.2.1 _ fin_126).2.1) rfl (k_ixN (k_ix (n := 1200) (x := x1) (a := x1.toInt) rfl hv37) (hR.w.2.1 _ fin_126).2.2) dX14_aimRow_31 ?_
    refine lv_topi (fun z38 ez38 => ?_)
    obtain rfl : z38 = (qI S 79 x1.toInt.toNat) := ez38
    obtain ⟨Q39, h0, h⟩ := h
    have hFc := rfree hR hA
    refine va_calli (va_runV (As := [.int (qI S 79 x1.toInt.toNat)]) (rest := [.ref (ad 91), .int (((3 : Int32) * x2) + (1 : Int32)), .ref (ad 74)]) ⟨hx, hb, hml, hown, hts⟩ (r_here l g ad H.size S (qI S 79 x1.toInt.toNat) hR.w  Q39 h0) (cwV 1 hts (gd2_V kx_693 kx_694 kx_695 kx_177 kx_696) rfl rfl rfl (by decide +kernel) ⟨Nat.le_of_ble_eq_true rfl, Nat.le_of_ble_eq_true rfl⟩) ⟨rblind, va_recv hR.K hR.P (ci := 13) (q0 := 0) rfl (hR.at14 hR.w.1), fun U hU hW9 => rmk hU hW9 hR hex hE hFc⟩ rfl rfl hl.1 rfl (lv_room (Nat.le_of_ble_eq_true rfl)) dX14_aimRow_32 ⟨Nat.le_of_ble_eq_true rfl, Nat.le_of_ble_eq_true rfl⟩) hR.sS (fun q _ h => hFc q h) hFc (fun r40 S41 t9 H1 locs ht9 hvm9 hw9 hB9 hz9 hk9 hS => ?_)
    obtain ⟨hq42, hw9, hs9⟩ := hw9
    have hR : Rep g ad A s S41 H1 locs := hR.call ht9 hB9 hw9 hS hFc
    have hsh := hsh.tr hs9
    replace h := h r40 S41 hq42
    clear hB9 hz9 hk9 hvm9 ht9 hw9 hs9 hS
    generalize H1 = H at hR ⊢
    obtain ⟨hv43, h⟩ := h
    refine va_iald hx hb hR.K hR.P 91 1 (hR.atI (hR.w.2.1 _ fin_141).2.1) rfl (k_ixN (k_ix (n := 1201) (x := r40) (a := r40.toInt) rfl hv43) (hR.w.2.1 _ fin_141).2.2) dX14_aimRow_35 ?_
    refine lv_topi (fun z44 ez44 => ?_)
    obtain rfl : z44 = (qI S41 91 r40.toInt.toNat) := ez44
    obtain ⟨hv45, h⟩ := h
    refine va_iast hx hb hR.K hR.P hR.D hR.sS 74 1 (hR.atI (hR.w.2.1 _ fin_119).2.1) rfl (k_ixN (k_ix (n := 87000) (x := (((3 : Int32) * x2) + (1 : Int32))) (a := (((3 : Int32) * x2) + (1 : Int32)).toInt) rfl hv45) (hR.w.2.1 _ fin_119).2.2) dX14_aimRow_36 (fun H locs hP hD hS => ?_)
    have hR : Rep g ad A s (wI S41 74 (((((3 : Int32) * x2) + (1 : Int32)).toInt).toNat) (qI S41 91 r40.toInt.toNat)) H locs := hR.aI (hR.w.2.1 _ fin_119).2.1 hP hD hS
    obtain ⟨S46, eS46⟩ : ∃ z, z = wI S41 74 (((((3 : Int32) * x2) + (1 : Int32)).toInt).toNat) (qI S41 91 r40.toInt.toNat) := ⟨_, rfl⟩
    rw [← eS46] at hR
    replace h := h S46 eS46
    have hsh : shy S S46 := by rw [eS46]; exact hsh
    exact J_37 S46 x1 _ _ ls h  hsh hR (lv_sub hl [0, 1] rfl)
def w_draftCatch (S : MS) (x1 : Int32) (Q : MS → Prop) : Prop := (((0 : Int) ≤ x1.toInt ∧ x1.toInt < 16) ∧ (∃ Q4, w_here S (qI S 82 x1.toInt.toNat) Q4 ∧ ∀ r5 S6, Q4 r5 S6 → (((0 : Int) ≤ r5.toInt ∧ r5.toInt < 1201) ∧ (((0 : Int) ≤ ((4 : Int32) * (qI S 0 123)).toInt ∧ ((4 : Int32) * (qI S 0 123)).toInt < 1536) ∧ (∀ S11, S11 = wI S6 76 ((((4 : Int32) * (qI S 0 123)).toInt).toNat) (qI S6 91 r5.toInt.toNat) → (((0 : Int) ≤ x1.toInt ∧ x1.toInt < 16) ∧ (∃ Q16, w_here S11 (qI S11 83 x1.toInt.toNat) Q16 ∧ ∀ r17 S18, Q16 r17 S18 → (((0 : Int) ≤ r17.toInt ∧ r17.toInt < 1201) ∧ (((0 : Int) ≤ (((4 : Int32) * (qI S11 0 123)) + (1 : Int32)).toInt ∧ (((4 : Int32) * (qI S11 0 123)) + (1 : Int32)).toInt < 1536) ∧ (∀ S23, S23 = wI S18 76 (((((4 : Int32) * (qI S11 0 123)) + (1 : Int32)).toInt).toNat) (qI S18 91 r17.toInt.toNat) → (((0 : Int) ≤ x1.toInt ∧ x1.toInt < 16) ∧ (∃ Q28, w_here S23 (qI S23 84 x1.toInt.toNat) Q28 ∧ ∀ r29 S30, Q28 r29 S30 → (((0 : Int) ≤ r29.toInt ∧ r29.toInt < 1201) ∧ (((0 : Int) ≤ (((4 : Int32) * (qI S23 0 123)) + (2 : Int32)).toInt ∧ (((4 : Int32) * (qI S23 0 123)) + (2 : Int32)).toInt < 1536) ∧ (∀ S35, S35 = wI S30 76 (((((4 : Int32) * (qI S23 0 123)) + (2 : Int32)).toInt).toNat) (qI S30 91 r29.toInt.toNat) → (((0 : Int) ≤ x1.toInt ∧ x1.toInt < 16) ∧ (((0 : Int) ≤ (((4 : Int32) * (qI S35 0 123)) + (3 : Int32)).toInt ∧ (((4 : Int32) * (qI S35 0 123)) + (3 : Int32)).toInt < 1536) ∧ (∀ S41, S41 = wI S35 76 (((((4 : Int32) * (qI S35 0 123)) + (3 : Int32)).toInt).toNat) (qI S35 85 x1.toInt.toNat) → (∀ S43, S43 = wI S41 0 123 ((qI S41 0 123) + (1 : Int32)) → Q S43)))))))))))))))))))
set_option maxHeartbeats 2000000 in
set_option maxRecDepth 100000 in
theorem r_draftCatch (l : Launch) (g : Gr) (ad : Nat → Nat) (sz : Nat) (S : MS) (x1 : Int32) (hw : wfM S) (Q : MS → Prop) (h : w_draftCatch S x1 Q) : Met l yX14_draftCatch (wt2 yX14_draftCatch cX14_draftCatch 2 none) ({ frames := 1, cells := 0, slots := 0, locals := 22 }) (va_Pc [.ref (ad 0), .int x1] (st_R g ad sz S)) (va_Qv (fun (u : MS) => Q u ∧ wfM u ∧ shy S u) (fun (u : MS) (t : State) => qE g ad (va_A (Wd g ad S) sz) u t) (va_A (Wd g ad S) sz)) 0 0 (va_A (Wd g ad S) sz) := by
  refine Met.ofW (cc := cX14_draftCatch) (maxL := 2) (ret := none) (by decide) rfl ?_
  intro p e s m args below meth c s₁ B hml hv
  obtain ⟨rfl, hsz, hP, hK, hD0, hex, hE⟩ := hv
  have hx := B.exec
  have hb := B.bytes
  have hr := B.returns
  have hts0 := atoms_spec (ws := wt2 yX14_draftCatch cX14_draftCatch 2 none) B.pre
  have hts : ∀ w ∈ tb2, w.before _ s = true := fun w h => hts0 w (List.mem_cons_of_mem _ h)
  have hown : s.vm.findClass RX14 = some m.cls := findClass_of_methodNamed B.named
  subst hsz
  have hD := hD0.self (sz := s.heap.size)
  generalize hAe : va_A (Wd g ad S) s.heap.size = A at hD hE ⊢
  have hA : ∀ q : Nat, s.heap.size ≤ q → A q := fun q h => by rw [← hAe]; exact Or.inr h
  have hR : Rep g ad A s S s.heap [] := ⟨hK, hP, hD, va_S.rf, hw⟩
  clear hK hP hD hD0
  have hl := lv_entry ([.ref (ad 0), .int x1]) (n := 2) (Nat.le_of_ble_eq_true rfl)
  rw [lg_entry_eq]
  generalize (lg_sl ([.ref (ad 0), .int x1]) ++ List.replicate (2 - (lg_sl ([.ref (ad 0), .int x1])).length) Slot.unset).toArray = ls at hl ⊢
  have hl : lv_has ls 2 [(0, .ref (ad 0)), (1, .int x1)] := hl
  have hsh : shy S S := shy.rf
  unfold w_draftCatch at h
  refine lv_aload_n hx hb dX14_draftCatch_0 rfl (lv_at hl 0 rfl) ?_
  refine va_get (D := rD g) (ci := 13) (v := .ref (ad 76)) (C := RX14) (T := TX14) (N := 143) hx hb hts in2X14 hown hR.K hR.P 0 (hR.at14 hR.w.1) rfl 121 (by decide) (hts _ kx_804) (fun _ h9 => h9) (congrArg (fun z => some (vf ad z)) (hR.w.2.1 _ fin_121).1) dX14_draftCatch_1 ?_
  refine lv_iconst (v := 4) hx hb dX14_draftCatch_4 (by decide) ?_
  refine lv_aload_n hx hb dX14_draftCatch_5 rfl (lv_at hl 0 rfl) ?_
  refine va_get (D := rD g) (ci := 13) (v := .int (qI S 0 123)) (C := RX14) (T := TX14) (N := 143) hx hb hts in2X14 hown hR.K hR.P 0 (hR.at14 hR.w.1) rfl 123 (by decide) (hts _ kx_806) (fun _ h9 => h9) rfl dX14_draftCatch_6 ?_
  refine lv_imul hx hb dX14_draftCatch_9 ?_
  refine lv_topi (fun z1 ez1 => ?_)
  obtain rfl : z1 = ((4 : Int32) * (qI S 0 123)) := ez1
  refine lv_aload_n hx hb dX14_draftCatch_10 rfl (lv_at hl 0 rfl) ?_
  refine va_get (D := rD g) (ci := 13) (v := .ref (ad 91)) (C := RX14) (T := TX14) (N := 143) hx hb hts in2X14 hown hR.K hR.P 0 (hR.at14 hR.w.1) rfl 141 (by decide) (hts _ kx_807) (fun _ h9 => h9) (congrArg (fun z => some (vf ad z)) (hR.w.2.1 _ fin_141).1) dX14_draftCatch_11 ?_
  refine lv_aload_n hx hb dX14_draftCatch_14 rfl (lv_at hl 0 rfl) ?_
  refine lv_aload_n hx hb dX14_draftCatch_15 rfl (lv_at hl 0 rfl) ?_
  refine va_get (D := rD g) (ci := 13) (v := .ref (ad 82)) (C := RX14) (T := TX14) (N := 143) hx hb hts in2X14 hown hR.K hR.P 0 (hR.at14 hR.w.1) rfl 130 (by decide) (hts _ kx_702) (fun _ h9 => h9) (congrArg (fun z => some (vf ad z)) (hR.w.2.1 _ fin_130).1) dX14_draftCatch_16 ?_
  refine lv_iload_n hx hb dX14_draftCatch_19 rfl (lv_at hl 1 rfl) ?_
  obtain ⟨hv2, h⟩ := h
  refine va_iald hx hb hR.K hR.P 82 1 (hR.atI (hR.w.2.1 _ fin_130).2.1) rfl (k_ixN (k_ix (n := 16) (x := x1) (a := x1.toInt) rfl hv2) (hR.w.2.1 _ fin_130).2.2) dX14_draftCatch_20 ?_
  refine lv_topi (fun z3 ez3 => ?_)
  obtain rfl : z3 = (qI S 82 x1.toInt.toNat) := ez3
  obtain ⟨Q4, h0, h⟩ := h
  have hFc := rfree hR hA
  refine va_calli (va_runV (As := [.int (qI S 82 x1.toInt.toNat)]) (rest := [.ref (ad 91), .int ((4 : Int32) * (qI S 0 123)), .ref (ad 76)]) ⟨hx, hb, hml, hown, hts⟩ (r_here l g ad s.heap.size S (qI S 82 x1.toInt.toNat) hR.w  Q4 h0) (cwV 1 hts (gd2_V kx_693 kx_694 kx_695 kx_177 kx_696) rfl rfl rfl (by decide +kernel) ⟨Nat.le_of_ble_eq_true rfl, Nat.le_of_ble_eq_true rfl⟩) ⟨rblind, va_recv hR.K hR.P (ci := 13) (q0 := 0) rfl (hR.at14 hR.w.1), fun U hU hW9 => rmk hU hW9 hR hex hE hFc⟩ rfl rfl hl.1 rfl (lv_room (Nat.le_of_ble_eq_true rfl)) dX14_draftCatch_21 ⟨Nat.le_of_ble_eq_true rfl, Nat.le_of_ble_eq_true rfl⟩) hR.sS (fun q _ h => hFc q h) hFc (fun r5 S6 t9 H1 locs ht9 hvm9 hw9 hB9 hz9 hk9 hS => ?_)
  obtain ⟨hq7, hw9, hs9⟩ := hw9
  have hR : Rep g ad A s S6 H1 locs := hR.call ht9 hB9 hw9 hS hFc
  have hsh := hsh.tr hs9
  replace h := h r5 S6 hq7
  clear hB9 hz9 hk9 hvm9 ht9 hw9 hs9 hS
  generalize H1 = H at hR ⊢
  obtain ⟨hv8, h⟩ := h
  refine va_iald hx hb hR.K hR.P 91 1 (hR.atI (hR.w.2.1 _ fin_141).2.1) rfl (k_ixN (k_ix (n := 1201) (x := r5) (a := r5.toInt) rfl hv8) (hR.w.2.1 _ fin_141).2.2) dX14_draftCatch_24 ?_
  refine lv_topi (fun z9 ez9 => ?_)
  obtain rfl : z9 = (qI S6 91 r5.toInt.toNat) := ez9
  obtain ⟨hv10, h⟩ := h
  refine va_iast hx hb hR.K hR.P hR.D hR.sS 76 1 (hR.atI (hR.w.2.1 _ fin_121).2.1) rfl (k_ixN (k_ix (n := 1536) (x := ((4 : Int32) * (qI S 0 123))) (a := ((4 : Int32) * (qI S 0 123)).toInt) rfl hv10) (hR.w.2.1 _ fin_121).2.2) dX14_draftCatch_25 (fun H locs hP hD hS => ?_)
  have hR : Rep g ad A s (wI S6 76 ((((4 : Int32) * (qI S 0 123)).toInt).toNat) (qI S6 91 r5.toInt.toNat)) H locs := hR.aI (hR.w.2.1 _ fin_121).2.1 hP hD hS
  obtain ⟨S11, eS11⟩ : ∃ z, z = wI S6 76 ((((4 : Int32) * (qI S 0 123)).toInt).toNat) (qI S6 91 r5.toInt.toNat) := ⟨_, rfl⟩
  rw [← eS11] at hR
  replace h := h S11 eS11
  have hsh : shy S S11 := by rw [eS11]; exact hsh
  refine lv_aload_n hx hb dX14_draftCatch_26 rfl (lv_at hl 0 rfl) ?_
  refine va_get (D := rD g) (ci := 13) (v := .ref (ad 76)) (C := RX14) (T := TX14) (N := 143) hx hb hts in2X14 hown hR.K hR.P 0 (hR.at14 hR.w.1) rfl 121 (by decide) (hts _ kx_804) (fun _ h9 => h9) (congrArg (fun z => some (vf ad z)) (hR.w.2.1 _ fin_121).1) dX14_draftCatch_27 ?_
  refine lv_iconst (v := 4) hx hb dX14_draftCatch_30 (by decide) ?_
  refine lv_aload_n hx hb dX14_draftCatch_31 rfl (lv_at hl 0 rfl) ?_
  refine va_get (D := rD g) (ci := 13) (v := .int (qI S11 0 123)) (C := RX14) (T := TX14) (N := 143) hx hb hts in2X14 hown hR.K hR.P 0 (hR.at14 hR.w.1) rfl 123 (by decide) (hts _ kx_806) (fun _ h9 => h9) rfl dX14_draftCatch_32 ?_
  refine lv_imul hx hb dX14_draftCatch_35 ?_
  refine lv_topi (fun z12 ez12 => ?_)
  obtain rfl : z12 = ((4 : Int32) * (qI S11 0 123)) := ez12
  refine lv_iconst (v := 1) hx hb dX14_draftCatch_36 (by decide) ?_
  refine lv_iadd hx hb dX14_draftCatch_37 ?_
  refine lv_topi (fun z13 ez13 => ?_)
  obtain rfl : z13 = (((4 : Int32) * (qI S11 0 123)) + (1 : Int32)) := ez13
  refine lv_aload_n hx hb dX14_draftCatch_38 rfl (lv_at hl 0 rfl) ?_
  refine va_get (D := rD g) (ci := 13) (v := .ref (ad 91)) (C := RX14) (T := TX14) (N := 143) hx hb hts in2X14 hown hR.K hR.P 0 (hR.at14 hR.w.1) rfl 141 (by decide) (hts _ kx_807) (fun _ h9 => h9) (congrArg (fun z => some (vf ad z)) (hR.w.2.1 _ fin_141).1) dX14_draftCatch_39 ?_
  refine lv_aload_n hx hb dX14_draftCatch_42 rfl (lv_at hl 0 rfl) ?_
  refine lv_aload_n hx hb dX14_draftCatch_43 rfl (lv_at hl 0 rfl) ?_
  refine va_get (D := rD g) (ci := 13) (v := .ref (ad 83)) (C := RX14) (T := TX14) (N := 143) hx hb hts in2X14 hown hR.K hR.P 0 (hR.at14 hR.w.1) rfl 131 (by decide) (hts _ kx_703) (fun _ h9 => h9) (congrArg (fun z => some (vf ad z)) (hR.w.2.1 _ fin_131).1) dX14_draftCatch_44 ?_
  refine lv_iload_n hx hb dX14_draftCatch_47 rfl (lv_at hl 1 rfl) ?_
  obtain ⟨hv14, h⟩ := h
  refine va_iald hx hb hR.K hR.P 83 1 (hR.atI (hR.w.2.1 _ fin_131).2.1) rfl (k_ixN (k_ix (n := 16) (x := x1) (a := x1.toInt) rfl hv14) (hR.w.2.1 _ fin_131).2.2) dX14_draftCatch_48 ?_
  refine lv_topi (fun z15 ez15 => ?_)
  obtain rfl : z15 = (qI S11 83 x1.toInt.toNat) := ez15
  obtain ⟨Q16, h0, h⟩ := h
  have hFc := rfree hR hA
  refine va_calli (va_runV (As := [.int (qI S11 83 x1.toInt.toNat)]) (rest := [.ref (ad 91), .int (((4 : Int32) * (qI S11 0 123)) + (1 : Int32)), .ref (ad 76)]) ⟨hx, hb, hml, hown, hts⟩ (r_here l g ad H.size S11 (qI S11 83 x1.toInt.toNat) hR.w  Q16 h0) (cwV 1 hts (gd2_V kx_693 kx_694 kx_695 kx_177 kx_696) rfl rfl rfl (by decide +kernel) ⟨Nat.le_of_ble_eq_true rfl, Nat.le_of_ble_eq_true rfl⟩) ⟨rblind, va_recv hR.K hR.P (ci := 13) (q0 := 0) rfl (hR.at14 hR.w.1), fun U hU hW9 => rmk hU hW9 hR hex hE hFc⟩ rfl rfl hl.1 rfl (lv_room (Nat.le_of_ble_eq_true rfl)) dX14_draftCatch_49 ⟨Nat.le_of_ble_eq_true rfl, Nat.le_of_ble_eq_true rfl⟩) hR.sS (fun q _ h => hFc q h) hFc (fun r17 S18 t9 H1 locs ht9 hvm9 hw9 hB9 hz9 hk9 hS => ?_)
  obtain ⟨hq19, hw9, hs9⟩ := hw9
  have hR : Rep g ad A s S18 H1 locs := hR.call ht9 hB9 hw9 hS hFc
  have hsh := hsh.tr hs9
  replace h := h r17 S18 hq19
  clear hB9 hz9 hk9 hvm9 ht9 hw9 hs9 hS
  generalize H1 = H at hR ⊢
  obtain ⟨hv20, h⟩ := h
  refine va_iald hx hb hR.K hR.P 91 1 (hR.atI (hR.w.2.1 _ fin_141).2.1) rfl (k_ixN (k_ix (n := 1201) (x := r17) (a := r17.toInt) rfl hv20) (hR.w.2.1 _ fin_141).2.2) dX14_draftCatch_52 ?_
  refine lv_topi (fun z21 ez21 => ?_)
  obtain rfl : z21 = (qI S18 91 r17.toInt.toNat) := ez21
  obtain ⟨hv22, h⟩ := h
  refine va_iast hx hb hR.K hR.P hR.D hR.sS 76 1 (hR.atI (hR.w.2.1 _ fin_121).2.1) rfl (k_ixN (k_ix (n := 1536) (x := (((4 : Int32) * (qI S11 0 123)) + (1 : Int32))) (a := (((4 : Int32) * (qI S11 0 123)) + (1 : Int32)).toInt) rfl hv22) (hR.w.2.1 _ fin_121).2.2) dX14_draftCatch_53 (fun H locs hP hD hS => ?_)
  have hR : Rep g ad A s (wI S18 76 (((((4 : Int32) * (qI S11 0 123)) + (1 : Int32)).toInt).toNat) (qI S18 91 r17.toInt.toNat)) H locs := hR.aI (hR.w.2.1 _ fin_121).2.1 hP hD hS
  obtain ⟨S23, eS23⟩ : ∃ z, z = wI S18 76 (((((4 : Int32) * (qI S11 0 123)) + (1 : Int32)).toInt).toNat) (qI S18 91 r17.toInt.toNat) := ⟨_, rfl⟩
  rw [← eS23] at hR
  replace h := h S23 eS23
  have hsh : shy S S23 := by rw [eS23]; exact hsh
  refine lv_aload_n hx hb dX14_draftCatch_54 rfl (lv_at hl 0 rfl) ?_
  refine va_get (D := rD g) (ci := 13) (v := .ref (ad 76)) (C := RX14) (T := TX14) (N := 143) hx hb hts in2X14 hown hR.K hR.P 0 (hR.at14 hR.w.1) rfl 121 (by decide) (hts _ kx_804) (fun _ h9 => h9) (congrArg (fun z => some (vf ad z)) (hR.w.2.1 _ fin_121).1) dX14_draftCatch_55 ?_
  refine lv_iconst (v := 4) hx hb dX14_draftCatch_58 (by decide) ?_
  refine lv_aload_n hx hb dX14_draftCatch_59 rfl (lv_at hl 0 rfl) ?_
  refine va_get (D := rD g) (ci := 13) (v := .int (qI S23 0 123)) (C := RX14) (T := TX14) (N := 143) hx hb hts in2X14 hown hR.K hR.P 0 (hR.at14 hR.w.1) rfl 123 (by decide) (hts _ kx_806) (fun _ h9 => h9) rfl dX14_draftCatch_60 ?_
  refine lv_imul hx hb dX14_draftCatch_63 ?_
  refine lv_topi (fun z24 ez24 => ?_)
  obtain rfl : z24 = ((4 : Int32) * (qI S23 0 123)) := ez24
  refine lv_iconst (v := 2) hx hb dX14_draftCatch_64 (by decide) ?_
  refine lv_iadd hx hb dX14_draftCatch_65 ?_
  refine lv_topi (fun z25 ez25 => ?_)
  obtain rfl : z25 = (((4 : Int32) * (qI S23 0 123)) + (2 : Int32)) := ez25
  refine lv_aload_n hx hb dX14_draftCatch_66 rfl (lv_at hl 0 rfl) ?_
  refine va_get (D := rD g) (ci := 13) (v := .ref (ad 91)) (C := RX14) (T := TX14) (N := 143) hx hb hts in2X14 hown hR.K hR.P 0 (hR.at14 hR.w.1) rfl 141 (by decide) (hts _ kx_807) (fun _ h9 => h9) (congrArg (fun z => some (vf ad z)) (hR.w.2.1 _ fin_141).1) dX14_draftCatch_67 ?_
  refine lv_aload_n hx hb dX14_draftCatch_70 rfl (lv_at hl 0 rfl) ?_
  refine lv_aload_n hx hb dX14_draftCatch_71 rfl (lv_at hl 0 rfl) ?_
  refine va_get (D := rD g) (ci := 13) (v := .ref (ad 84)) (C := RX14) (T := TX14) (N := 143) hx hb hts in2X14 hown hR.K hR.P 0 (hR.at14 hR.w.1) rfl 132 (by decide) (hts _ kx_706) (fun _ h9 => h9) (congrArg (fun z => some (vf ad z)) (hR.w.2.1 _ fin_132).1) dX14_draftCatch_72 ?_
  refine lv_iload_n hx hb dX14_draftCatch_75 rfl (lv_at hl 1 rfl) ?_
  obtain ⟨hv26, h⟩ := h
  refine va_iald hx hb hR.K hR.P 84 1 (hR.atI (hR.w.2.1 _ fin_132).2.1) rfl (k_ixN (k_ix (n := 16) (x := x1) (a := x1.toInt) rfl hv26) (hR.w.2.1 _ fin_132).2.2) dX14_draftCatch_76 ?_
  refine lv_topi (fun z27 ez27 => ?_)
  obtain rfl : z27 = (qI S23 84 x1.toInt.toNat) := ez27
  obtain ⟨Q28, h0, h⟩ := h
  have hFc := rfree hR hA
  refine va_calli (va_runV (As := [.int (qI S23 84 x1.toInt.toNat)]) (rest := [.ref (ad 91), .int (((4 : Int32) * (qI S23 0 123)) + (2 : Int32)), .ref (ad 76)]) ⟨hx, hb, hml, hown, hts⟩ (r_here l g ad H.size S23 (qI S23 84 x1.toInt.toNat) hR.w  Q28 h0) (cwV 1 hts (gd2_V kx_693 kx_694 kx_695 kx_177 kx_696) rfl rfl rfl (by decide +kernel) ⟨Nat.le_of_ble_eq_true rfl, Nat.le_of_ble_eq_true rfl⟩) ⟨rblind, va_recv hR.K hR.P (ci := 13) (q0 := 0) rfl (hR.at14 hR.w.1), fun U hU hW9 => rmk hU hW9 hR hex hE hFc⟩ rfl rfl hl.1 rfl (lv_room (Nat.le_of_ble_eq_true rfl)) dX14_draftCatch_77 ⟨Nat.le_of_ble_eq_true rfl, Nat.le_of_ble_eq_true rfl⟩) hR.sS (fun q _ h => hFc q h) hFc (fun r29 S30 t9 H1 locs ht9 hvm9 hw9 hB9 hz9 hk9 hS => ?_)
  obtain ⟨hq31, hw9, hs9⟩ := hw9
  have hR : Rep g ad A s S30 H1 locs := hR.call ht9 hB9 hw9 hS hFc
  have hsh := hsh.tr hs9
  replace h := h r29 S30 hq31
  clear hB9 hz9 hk9 hvm9 ht9 hw9 hs9 hS
  generalize H1 = H at hR ⊢
  obtain ⟨hv32, h⟩ := h
  refine va_iald hx hb hR.K hR.P 91 1 (hR.atI (hR.w.2.1 _ fin_141).2.1) rfl (k_ixN (k_ix (n := 1201) (x := r29) (a := r29.toInt) rfl hv32) (hR.w.2.1 _ fin_141).2.2) dX14_draftCatch_80 ?_
  refine lv_topi (fun z33 ez33 => ?_)
  obtain rfl : z33 = (qI S30 91 r29.toInt.toNat) := ez33
  obtain ⟨hv34, h⟩ := h
  refine va_iast hx hb hR.K hR.P hR.D hR.sS 76 1 (hR.atI (hR.w.2.1 _ fin_121).2.1) rfl (k_ixN (k_ix (n := 1536) (x := (((4 : Int32) * (qI S23 0 123)) + (2 : Int32))) (a := (((4 : Int32) * (qI S23 0 123)) + (2 : Int32)).toInt) rfl hv34) (hR.w.2.1 _ fin_121).2.2) dX14_draftCatch_81 (fun H locs hP hD hS => ?_)
  have hR : Rep g ad A s (wI S30 76 (((((4 : Int32) * (qI S23 0 123)) + (2 : Int32)).toInt).toNat) (qI S30 91 r29.toInt.toNat)) H locs := hR.aI (hR.w.2.1 _ fin_121).2.1 hP hD hS
  obtain ⟨S35, eS35⟩ : ∃ z, z = wI S30 76 (((((4 : Int32) * (qI S23 0 123)) + (2 : Int32)).toInt).toNat) (qI S30 91 r29.toInt.toNat) := ⟨_, rfl⟩
  rw [← eS35] at hR
  replace h := h S35 eS35
  have hsh : shy S S35 := by rw [eS35]; exact hsh
  refine lv_aload_n hx hb dX14_draftCatch_82 rfl (lv_at hl 0 rfl) ?_
  refine va_get (D := rD g) (ci := 13) (v := .ref (ad 76)) (C := RX14) (T := TX14) (N := 143) hx hb hts in2X14 hown hR.K hR.P 0 (hR.at14 hR.w.1) rfl 121 (by decide) (hts _ kx_804) (fun _ h9 => h9) (congrArg (fun z => some (vf ad z)) (hR.w.2.1 _ fin_121).1) dX14_draftCatch_83 ?_
  refine lv_iconst (v := 4) hx hb dX14_draftCatch_86 (by decide) ?_
  refine lv_aload_n hx hb dX14_draftCatch_87 rfl (lv_at hl 0 rfl) ?_
  refine va_get (D := rD g) (ci := 13) (v := .int (qI S35 0 123)) (C := RX14) (T := TX14) (N := 143) hx hb hts in2X14 hown hR.K hR.P 0 (hR.at14 hR.w.1) rfl 123 (by decide) (hts _ kx_806) (fun _ h9 => h9) rfl dX14_draftCatch_88 ?_
  refine lv_imul hx hb dX14_draftCatch_91 ?_
  refine lv_topi (fun z36 ez36 => ?_)
  obtain rfl : z36 = ((4 : Int32) * (qI S35 0 123)) := ez36
  refine lv_iconst (v := 3) hx hb dX14_draftCatch_92 (by decide) ?_
  refine lv_iadd hx hb dX14_draftCatch_93 ?_
  refine lv_topi (fun z37 ez37 => ?_)
  obtain rfl : z37 = (((4 : Int32) * (qI S35 0 123)) + (3 : Int32)) := ez37
  refine lv_aload_n hx hb dX14_draftCatch_94 rfl (lv_at hl 0 rfl) ?_
  refine va_get (D := rD g) (ci := 13) (v := .ref (ad 85)) (C := RX14) (T := TX14) (N := 143) hx hb hts in2X14 hown hR.K hR.P 0 (hR.at14 hR.w.1) rfl 133 (by decide) (hts _ kx_715) (fun _ h9 => h9) (congrArg (fun z => some (vf ad z)) (hR.w.2.1 _ fin_133).1) dX14_draftCatch_95 ?_
  refine lv_iload_n hx hb dX14_draftCatch_98 rfl (lv_at hl 1 rfl) ?_
  obtain ⟨hv38, h⟩ := h
  refine va_iald hx hb hR.K hR.P 85 1 (hR.atI (hR.w.2.1 _ fin_133).2.1) rfl (k_ixN (k_ix (n := 16) (x := x1) (a := x1.toInt) rfl hv38) (hR.w.2.1 _ fin_133).2.2) dX14_draftCatch_99 ?_
  refine lv_topi (fun z39 ez39 => ?_)
  obtain rfl : z39 = (qI S35 85 x1.toInt.toNat) := ez39
  obtain ⟨hv40, h⟩ := h
  refine va_iast hx hb hR.K hR.P hR.D hR.sS 76 1 (hR.atI (hR.w.2.1 _ fin_121).2.1) rfl (k_ixN (k_ix (n := 1536) (x := (((4 : Int32) * (qI S35 0 123)) + (3 : Int32))) (a := (((4 : Int32) * (qI S35 0 123)) + (3 : Int32)).toInt) rfl hv40) (hR.w.2.1 _ fin_121).2.2) dX14_draftCatch_100 (fun H locs hP hD hS => ?_)
  have hR : Rep g ad A s (wI S35 76 (((((4 : Int32) * (qI S35 0 123)) + (3 : Int32)).toInt).toNat) (qI S35 85 x1.toInt.toNat)) H locs := hR.aI (hR.w.2.1 _ fin_121).2.1 hP hD hS
  obtain ⟨S41, eS41⟩ : ∃ z, z = wI S35 76 (((((4 : Int32) * (qI S35 0 123)) + (3 : Int32)).toInt).toNat) (qI S35 85 x1.toInt.toNat) := ⟨_, rfl⟩
  rw [← eS41] at hR
  replace h := h S41 eS41
  have hsh : shy S S41 := by rw [eS41]; exact hsh
  refine lv_aload_n hx hb dX14_draftCatch_101 rfl (lv_at hl 0 rfl) ?_
  refine lv_dup hx hb dX14_draftCatch_102 rfl ?_
  refine va_get (D := rD g) (ci := 13) (v := .int (qI S41 0 123)) (C := RX14) (T := TX14) (N := 143) hx hb hts in2X14 hown hR.K hR.P 0 (hR.at14 hR.w.1) rfl 123 (by decide) (hts _ kx_806) (fun _ h9 => h9) rfl dX14_draftCatch_103 ?_
  refine lv_iconst (v := 1) hx hb dX14_draftCatch_106 (by decide) ?_
  refine lv_iadd hx hb dX14_draftCatch_107 ?_
  refine lv_topi (fun z42 ez42 => ?_)
  obtain rfl : z42 = ((qI S41 0 123) + (1 : Int32)) := ez42
  refine va_put (D := rD g) (ci := 13) (v := .int ((qI S41 0 123) + (1 : Int32))) (ty := .int) (C := RX14) (T := TX14) (N := 143) hx hb hts in2X14 tyX14 tyX14_ok nmX14 hown hR.K hR.P hR.D hR.sS 0 (hR.at14 hR.w.1) rfl 123 (by decide) (hts _ kx_806) (fun _ h9 => h9) rfl (by decide +kernel) rfl rfl (Nat.le_of_ble_eq_true rfl) dX14_draftCatch_108 (fun H locs hP hD hS => ?_)
  have hR : Rep g ad A s (wI S41 0 123 ((qI S41 0 123) + (1 : Int32))) H locs := hR.pI hR.w.1 F14_s123 hP hD hS
  obtain ⟨S43, eS43⟩ : ∃ z, z = wI S41 0 123 ((qI S41 0 123) + (1 : Int32)) := ⟨_, rfl⟩
  rw [← eS43] at hR
  replace h := h S43 eS43
  have hsh : shy S S43 := by rw [eS43]; exact hsh
  exact W.vret hx hb hr (fun t9 ht9 hW9 => ⟨⟨S43, rfl, ⟨h, hR.w, hsh⟩, ⟨by rw [ht9]; exact hR.P, hR.D⟩⟩, hR.sS.F ht9⟩) hR.sS.2.2 dX14_draftCatch_111
def w_putMethod_J285 (Q : MS → Prop) (k260 : MS → Int32 → Int32 → Prop) (U285 : MS) (v285_1 : Int32) (v285_5 : Int32) : Prop := (∀ a32 : Int32, a32 = (v285_5 + Int32.ofInt 1) → k260 U285 v285_1 a32)
def w_putMethod_L260 (Q : MS → Prop) : Nat → MS → Int32 → Int32 → Prop
  | 0, _, _, _ => False
  | n260 + 1, U260, v260_1, v260_5 => (((qI U260 0 135).toInt ≤ v260_5.toInt → ((qR U260 60 17 = some (qO U260 60 17)) ∧ ((qR U260 60 16 = some (qO U260 60 16)) ∧ (((0 : Int) ≤ v260_1.toInt ∧ v260_1.toInt < (qN U260 (qO U260 60 16) : Int)) ∧ (((0 : Int) ≤ v260_1.toInt ∧ v260_1.toInt < (qN U260 (qO U260 60 17) : Int)) ∧ (∀ S29, S29 = wI U260 (qO U260 60 17) v260_1.toInt.toNat ((qI U260 0 123) - (qI U260 (qO U260 60 16) v260_1.toInt.toNat)) → Q S29)))))) ∧ (¬ (qI U260 0 135).toInt ≤ v260_5.toInt → (((0 : Int) ≤ v260_5.toInt ∧ v260_5.toInt < 16) ∧ (((qI U260 86 v260_5.toInt.toNat).toInt = 0 → (∃ Q34, w_draftCatch U260 v260_5 Q34 ∧ ∀ S35, Q34 S35 → w_putMethod_J285 Q (w_putMethod_L260 Q n260) S35 v260_1 v260_5)) ∧ (¬ (qI U260 86 v260_5.toInt.toNat).toInt = 0 → w_putMethod_J285 Q (w_putMethod_L260 Q n260) U260 v260_1 v260_5)))))
def w_putMethod_J238 (Q : MS → Prop) (k206 : MS → Int32 → Int32 → Prop) (U238 : MS) (v238_1 : Int32) (v238_5 : Int32) : Prop := (∀ a39 : Int32, a39 = (v238_5 + Int32.ofInt 1) → k206 U238 v238_1 a39)
def w_putMethod_L206 (Q : MS → Prop) : Nat → MS → Int32 → Int32 → Prop
  | 0, _, _, _ => False
  | n206 + 1, U206, v206_1, v206_5 => (((qI U206 0 129).toInt ≤ v206_5.toInt → ((qR U206 60 16 = some (qO U206 60 16)) ∧ (((0 : Int) ≤ v206_1.toInt ∧ v206_1.toInt < (qN U206 (qO U206 60 16) : Int)) ∧ (∀ S19, S19 = wI U206 (qO U206 60 16) v206_1.toInt.toNat (qI U206 0 123) → (∃ n, w_putMethod_L260 Q n S19 v206_1 0))))) ∧ (¬ (qI U206 0 129).toInt ≤ v206_5.toInt → (((0 : Int) ≤ v206_5.toInt ∧ v206_5.toInt < 1200) ∧ (((qI U206 81 v206_5.toInt.toNat).toInt = 0 → (((0 : Int) ≤ v206_5.toInt ∧ v206_5.toInt < 1200) ∧ (∃ Q43, w_aimRow U206 v206_5 (qI U206 92 v206_5.toInt.toNat) Q43 ∧ ∀ S44, Q43 S44 → w_putMethod_J238 Q (w_putMethod_L206 Q n206) S44 v206_1 v206_5))) ∧ (¬ (qI U206 81 v206_5.toInt.toNat).toInt = 0 → w_putMethod_J238 Q (w_putMethod_L206 Q n206) U206 v206_1 v206_5)))))
def w_putMethod_J167 (Q : MS → Prop) (k21 : MS → Int32 → Int32 → Int32 → Int32 → Int32 → Prop) (U167 : MS) (v167_1 : Int32) (v167_2 : Int32) (v167_3 : Int32) (v167_4 : Int32) (v167_5 : Int32) : Prop := (∀ a51 : Int32, a51 = (v167_5 + Int32.ofInt 1) → k21 U167 v167_1 v167_2 v167_3 v167_4 a51)
def w_putMethod_J131 (Q : MS → Prop) (k21 : MS → Int32 → Int32 → Int32 → Int32 → Int32 → Prop) (U131 : MS) (v131_1 : Int32) (v131_2 : Int32) (v131_3 : Int32) (v131_4 : Int32) (v131_5 : Int32) : Prop := (((0 : Int) ≤ v131_5.toInt ∧ v131_5.toInt < 1200) ∧ (∀ S54, S54 = wI U131 92 v131_5.toInt.toNat (qI U131 0 122) → (((0 : Int) ≤ v131_5.toInt ∧ v131_5.toInt < 1200) ∧ (((0 : Int) ≤ v131_5.toInt ∧ v131_5.toInt < 1200) ∧ (((0 : Int) ≤ v131_5.toInt ∧ v131_5.toInt < 1200) ∧ (∃ Q61, w_draftRow S54 (qI S54 78 v131_5.toInt.toNat) (qI S54 79 v131_5.toInt.toNat) (qI S54 80 v131_5.toInt.toNat) Q61 ∧ ∀ S62, Q61 S62 → w_putMethod_J167 Q k21 S62 v131_1 v131_2 v131_3 v131_4 v131_5))))))
def w_putMethod_L21 (Q : MS → Prop) : Nat → MS → Int32 → Int32 → Int32 → Int32 → Int32 → Prop
  | 0, _, _, _, _, _, _ => False
  | n21 + 1, U21, v21_1, v21_2, v21_3, v21_4, v21_5 => (((qI U21 0 129).toInt ≤ v21_5.toInt → (((0 : Int) ≤ (qI U21 0 129).toInt ∧ (qI U21 0 129).toInt < 1201) ∧ (∀ S9, S9 = wI U21 91 (((qI U21 0 129).toInt).toNat) ((qI U21 0 122) - v21_3) → ((qR S9 60 15 = some (qO S9 60 15)) ∧ (((0 : Int) ≤ v21_1.toInt ∧ v21_1.toInt < (qN S9 (qO S9 60 15) : Int)) ∧ (∀ S14, S14 = wI S9 (qO S9 60 15) v21_1.toInt.toNat ((qI S9 0 122) - v21_3) → (∃ n, w_putMethod_L206 Q n S14 v21_1 0))))))) ∧ (¬ (qI U21 0 129).toInt ≤ v21_5.toInt → (((0 : Int) ≤ v21_5.toInt ∧ v21_5.toInt < 1201) ∧ (∀ S48, S48 = wI U21 91 v21_5.toInt.toNat ((qI U21 0 122) - v21_3) → (((0 : Int) ≤ v21_5.toInt ∧ v21_5.toInt < 1200) ∧ (((qI S48 81 v21_5.toInt.toNat).toInt = 0 → ((v21_2.toInt < 0 → w_putMethod_J131 Q (w_putMethod_L21 Q n21) S48 v21_1 v21_2 v21_3 v21_4 v21_5) ∧ (¬ v21_2.toInt < 0 → (((0 : Int) ≤ v21_5.toInt ∧ v21_5.toInt < 1201) ∧ (((0 : Int) ≤ (qI S48 50 v21_5.toInt.toNat).toInt ∧ (qI S48 50 v21_5.toInt.toNat).toInt < 1201) ∧ (((qI S48 49 (((qI S48 50 v21_5.toInt.toNat).toInt).toNat)).toInt = v21_5.toInt → (((0 : Int) ≤ v21_5.toInt ∧ v21_5.toInt < 1201) ∧ (((0 : Int) ≤ (qI S48 50 v21_5.toInt.toNat).toInt ∧ (qI S48 50 v21_5.toInt.toNat).toInt < 1200) ∧ (((qI S48 53 (((qI S48 50 v21_5.toInt.toNat).toInt).toNat)).toInt = 0 → w_putMethod_J131 Q (w_putMethod_L21 Q n21) S48 v21_1 v21_2 v21_3 v21_4 v21_5) ∧ (¬ (qI S48 53 (((qI S48 50 v21_5.toInt.toNat).toInt).toNat)).toInt = 0 → (∃ Q75, w_draftRow S48 (178 : Int32) v21_4 (0 : Int32) Q75 ∧ ∀ S76, Q75 S76 → (∃ Q78, w_draftRow S76 (20 : Int32) (0 : Int32) (1 : Int32) Q78 ∧ ∀ S79, Q78 S79 → (∃ Q81, w_draftRow S79 (97 : Int32) (0 : Int32) (0 : Int32) Q81 ∧ ∀ S82, Q81 S82 → (∃ Q84, w_draftRow S82 (179 : Int32) v21_4 (0 : Int32) Q84 ∧ ∀ S85, Q84 S85 → (∀ a87 : Int32, a87 = (v21_4 + Int32.ofInt 1) → w_putMethod_J131 Q (w_putMethod_L21 Q n21) S85 v21_1 v21_2 v21_3 a87 v21_5)))))))))) ∧ (¬ (qI S48 49 (((qI S48 50 v21_5.toInt.toNat).toInt).toNat)).toInt = v21_5.toInt → w_putMethod_J131 Q (w_putMethod_L21 Q n21) S48 v21_1 v21_2 v21_3 v21_4 v21_5))))))) ∧ (¬ (qI S48 81 v21_5.toInt.toNat).toInt = 0 → w_putMethod_J167 Q (w_putMethod_L21 Q n21) S48 v21_1 v21_2 v21_3 v21_4 v21_5)))))))
def w_putMethod (S : MS) (x1 : Int32) (x2 : Int32) (Q : MS → Prop) : Prop := (∀ a1 : Int32, a1 = (qI S 0 122) → ((qR S 60 14 = some (qO S 60 14)) ∧ (((0 : Int) ≤ x1.toInt ∧ x1.toInt < (qN S (qO S 60 14) : Int)) ∧ (∀ S5, S5 = wI S (qO S 60 14) x1.toInt.toNat a1 → (∃ n, w_putMethod_L21 Q n S5 x1 x2 a1 x2 0)))))
set_option maxHeartbeats 2000000 in
set_option maxRecDepth 100000 in
theorem r_putMethod (l : Launch) (g : Gr) (ad : Nat → Nat) (sz : Nat) (S : MS) (x1 : Int32) (x2 : Int32) (hw : wfM S) (Q : MS → Prop) (h : w_putMethod S x1 x2 Q) : Met l yX14_putMethod (wt2 yX14_putMethod cX14_putMethod 6 none) ({ frames := 2, cells := 0, slots := 0, locals := 45 }) (va_Pc [.ref (ad 0), .int x1, .int x2] (st_R g ad sz S)) (va_Qv (fun (u : MS) => Q u ∧ wfM u ∧ shy S u) (fun (u : MS) (t : State) => qE g ad (va_A (Wd g ad S) sz) u t) (va_A (Wd g ad S) sz)) 0 0 (va_A (Wd g ad S) sz) := by
  refine Met.ofW (cc := cX14_putMethod) (maxL := 6) (ret := none) (by decide) rfl ?_
  intro p e s m args below meth c s₁ B hml hv
  obtain ⟨rfl, hsz, hP, hK, hD0, hex, hE⟩ := hv
  have hx := B.exec
  have hb := B.bytes
  have hr := B.returns
  have hts0 := atoms_spec (ws := wt2 yX14_putMethod cX14_putMethod 6 none) B.pre
  have hts : ∀ w ∈ tb2, w.before _ s = true := fun w h => hts0 w (List.mem_cons_of_mem _ h)
  have hown : s.vm.findClass RX14 = some m.cls := findClass_of_methodNamed B.named
  subst hsz
  have hD := hD0.self (sz := s.heap.size)
  generalize hAe : va_A (Wd g ad S) s.heap.size = A at hD hE ⊢
  have hA : ∀ q : Nat, s.heap.size ≤ q → A q := fun q h => by rw [← hAe]; exact Or.inr h
  have hR : Rep g ad A s S s.heap [] := ⟨hK, hP, hD, va_S.rf, hw⟩
  clear hK hP hD hD0
  have hl := lv_entry ([.ref (ad 0), .int x1, .int x2]) (n := 6) (Nat.le_of_ble_eq_true rfl)
  rw [lg_entry_eq]
  generalize (lg_sl ([.ref (ad 0), .int x1, .int x2]) ++ List.replicate (6 - (lg_sl ([.ref (ad 0), .int x1, .int x2])).length) Slot.unset).toArray = ls at hl ⊢
  have hl : lv_has ls 6 [(0, .ref (ad 0)), (1, .int x1), (2, .int x2)] := hl
  have hsh : shy S S := shy.rf
  unfold w_putMethod at h
  refine lv_aload_n hx hb dX14_putMethod_0 rfl (lv_at hl 0 rfl) ?_
  refine va_get (D := rD g) (ci := 13) (v := .int (qI S 0 122)) (C := RX14) (T := TX14) (N := 143) hx hb hts in2X14 hown hR.K hR.P 0 (hR.at14 hR.w.1) rfl 122 (by decide) (hts _ kx_805) (fun _ h9 => h9) rfl dX14_putMethod_1 ?_
  obtain ⟨a1, ea1⟩ : ∃ z, z = (qI S 0 122) := ⟨_, rfl⟩
  rw [← ea1]
  replace h := h a1 ea1
  refine lv_istore_n (lv' := [(3, .int a1), (0, .ref (ad 0)), (1, .int x1), (2, .int x2)]) hx hb dX14_putMethod_4 rfl hl (by decide) rfl (fun ls hl => ?_)
  refine lv_iload_n hx hb dX14_putMethod_5 rfl (lv_at hl 3 rfl) ?_
  refine lv_istore (lv' := [(4, .int x2), (3, .int a1), (0, .ref (ad 0)), (1, .int x1), (2, .int x2)]) hx hb dX14_putMethod_6 hl (by decide) rfl (fun ls hl => ?_)
  refine lv_aload_n hx hb dX14_putMethod_8 rfl (lv_at hl 2 rfl) ?_
  refine va_get (D := rD g) (ci := 13) (v := .ref (ad 60)) (C := RX14) (T := TX14) (N := 143) hx hb hts in2X14 hown hR.K hR.P 0 (hR.at14 hR.w.1) rfl 118 (by decide) (hts _ kx_802) (fun _ h9 => h9) (congrArg (fun z => some (vf ad z)) (hR.w.2.1 _ fin_118).1) dX14_putMethod_9 ?_
  obtain ⟨hv2, h⟩ := h
  have hT_b3 : qT S (qO S 60 14) = 2 := hR.w.ref hv2 (hR.w.2.1 _ fin_118).2.1
  refine va_get (D := rD g) (ci := 12) (v := .ref (ad (qO S 60 14))) (C := RX13) (T := TX13) (N := 23) hx hb hts in2X13 hown hR.K hR.P 60 (hR.at13 (hR.w.2.1 _ fin_118).2.1) rfl 14 (by decide) (hts _ kx_368) (fun _ h9 => h9) (congrArg (fun z => some (vf ad z)) hv2) dX14_putMethod_12 ?_
  refine lv_iload_n hx hb dX14_putMethod_15 rfl (lv_at hl 3 rfl) ?_
  refine lv_iload_n hx hb dX14_putMethod_16 rfl (lv_at hl 1 rfl) ?_
  obtain ⟨hv4, h⟩ := h
  refine va_iast hx hb hR.K hR.P hR.D hR.sS (qO S 60 14) 1 (hR.atI hT_b3) rfl (k_ix (x := x1) (a := x1.toInt) rfl hv4) dX14_putMethod_17 (fun H locs hP hD hS => ?_)
  have hR : Rep g ad A s (wI S (qO S 60 14) x1.toInt.toNat a1) H locs := hR.aI hT_b3 hP hD hS
  obtain ⟨S5, eS5⟩ : ∃ z, z = wI S (qO S 60 14) x1.toInt.toNat a1 := ⟨_, rfl⟩
  rw [← eS5] at hR
  replace h := h S5 eS5
  have hsh : shy S S5 := by rw [eS5]; exact hsh
  refine lv_iconst (v := 0) hx hb dX14_putMethod_18 (by decide) ?_
  refine lv_istore (lv' := [(5, .int 0), (4, .int x2), (3, .int a1), (0, .ref (ad 0)), (1, .int x1), (2, .int x2)]) hx hb dX14_putMethod_19 hl (by decide) rfl (fun ls hl => ?_)
  have J_21 : ∀ (n21 : Nat) (U21 : MS) (v21_1 : Int32) (v21_2 : Int32) (v21_3 : Int32) (v21_4 : Int32) (v21_5 : Int32) (H : Heap) (locs : List Loc) (ls : Array Slot), w_putMethod_L21 Q n21 U21 v21_1 v21_2 v21_3 v21_4 v21_5 → shy S U21 → Rep g ad A s U21 H locs → lv_has ls 6 [(0, .ref (ad 0)), (1, .int v21_1), (2, .int v21_2), (3, .int v21_3), (4, .int v21_4), (5, .int v21_5)] → W p l e (headSpec (wt2 yX14_putMethod cX14_putMethod 6 none) ({ frames := 2, cells := 0, slots := 0, locals := 45 })).room s m ([.ref (ad 0), .int x1, .int x2] : List Value).toArray below meth c H locs 0 0 (MQ below (va_Qv (fun (u : MS) => Q u ∧ wfM u ∧ shy S u) (fun (u : MS) (t : State) => qE g ad A u t) A) ([.ref (ad 0), .int x1, .int x2] : List Value).toArray s 0 0 A) (F0 m 21 ls []) := by
    intro n21
    induction n21 with
    | zero => intro U21 v21_1 v21_2 v21_3 v21_4 v21_5 H locs ls h hsh hR hl; unfold w_putMethod_L21 at h; exact h.elim
    | succ n21 ih_21 =>
      intro U21 v21_1 v21_2 v21_3 v21_4 v21_5 H locs ls h hsh hR hl
      unfold w_putMethod_L21 at h
      refine lv_iload hx hb dX14_putMethod_21 (lv_at hl 5 rfl) ?_
      refine lv_aload_n hx hb dX14_putMethod_23 rfl (lv_at hl 0 rfl) ?_
      refine va_get (D := rD g) (ci := 13) (v := .int (qI U21 0 129)) (C := RX14) (T := TX14) (N := 143) hx hb hts in2X14 hown hR.K hR.P 0 (hR.at14 hR.w.1) rfl 129 (by decide) (hts _ kx_691) (fun _ h9 => h9) rfl dX14_putMethod_24 ?_
      refine lv_icmp_ge (tgt := 173) hx hb dX14_putMethod_27 (by decide) (fun c6 => ?_) (fun c6 => ?_)
      · replace h := h.1 (k_le rfl rfl c6)
        refine lv_aload_n hx hb dX14_putMethod_173 rfl (lv_at hl 0 rfl) ?_
        refine va_get (D := rD g) (ci := 13) (v := .ref (ad 91)) (C := RX14) (T := TX14) (N := 143) hx hb hts in2X14 hown hR.K hR.P 0 (hR.at14 hR.w.1) rfl 141 (by decide) (hts _ kx_807) (fun _ h9 => h9) (congrArg (fun z => some (vf ad z)) (hR.w.2.1 _ fin_141).1) dX14_putMethod_174 ?_
        refine lv_aload_n hx hb dX14_putMethod_177 rfl (lv_at hl 0 rfl) ?_
        refine va_get (D := rD g) (ci := 13) (v := .int (qI U21 0 129)) (C := RX14) (T := TX14) (N := 143) hx hb hts in2X14 hown hR.K hR.P 0 (hR.at14 hR.w.1) rfl 129 (by decide) (hts _ kx_691) (fun _ h9 => h9) rfl dX14_putMethod_178 ?_
        refine lv_aload_n hx hb dX14_putMethod_181 rfl (lv_at hl 0 rfl) ?_
        refine va_get (D := rD g) (ci := 13) (v := .int (qI U21 0 122)) (C := RX14) (T := TX14) (N := 143) hx hb hts in2X14 hown hR.K hR.P 0 (hR.at14 hR.w.1) rfl 122 (by decide) (hts _ kx_805) (fun _ h9 => h9) rfl dX14_putMethod_182 ?_
        refine lv_iload_n hx hb dX14_putMethod_185 rfl (lv_at hl 3 rfl) ?_
        refine lv_isub hx hb dX14_putMethod_186 ?_
        refine lv_topi (fun z7 ez7 => ?_)
        obtain rfl : z7 = ((qI U21 0 122) - v21_3) := ez7
        obtain ⟨hv8, h⟩ := h
        refine va_iast hx hb hR.K hR.P hR.D hR.sS 91 1 (hR.atI (hR.w.2.1 _ fin_141).2.1) rfl (k_ixN (k_ix (n := 1201) (x := (qI U21 0 129)) (a := (qI U21 0 129).toInt) rfl hv8) (hR.w.2.1 _ fin_141).2.2) dX14_putMethod_187 (fun H locs hP hD hS => ?_)
        have hR : Rep g ad A s (wI U21 91 (((qI U21 0 129).toInt).toNat) ((qI U21 0 122) - v21_3)) H locs := hR.aI (hR.w.2.1 _ fin_141).2.1 hP hD hS
        obtain ⟨S9, eS9⟩ : ∃ z, z = wI U21 91 (((qI U21 0 129).toInt).toNat) ((qI U21 0 122) - v21_3) := ⟨_, rfl⟩
        rw [← eS9] at hR
        replace h := h S9 eS9
        have hsh : shy S S9 := by rw [eS9]; exact hsh
        refine lv_aload_n hx hb dX14_putMethod_188 rfl (lv_at hl 0 rfl) ?_
        refine va_get (D := rD g) (ci := 13) (v := .ref (ad 60)) (C := RX14) (T := TX14) (N := 143) hx hb hts in2X14 hown hR.K hR.P 0 (hR.at14 hR.w.1) rfl 118 (by decide) (hts _ kx_802) (fun _ h9 => h9) (congrArg (fun z => some (vf ad z)) (hR.w.2.1 _ fin_118).1) dX14_putMethod_189 ?_
        obtain ⟨hv10, h⟩ := h
        have hT_b11 : qT S9 (qO S9 60 15) = 2 := hR.w.ref hv10 (hR.w.2.1 _ fin_118).2.1
        refine va_get (D := rD g) (ci := 12) (v := .ref (ad (qO S9 60 15))) (C := RX13) (T := TX13) (N := 23) hx hb hts in2X13 hown hR.K hR.P 60 (hR.at13 (hR.w.2.1 _ fin_118).2.1) rfl 15 (by decide) (hts _ kx_361) (fun _ h9 => h9) (congrArg (fun z => some (vf ad z)) hv10) dX14_putMethod_192 ?_
        refine lv_iload_n hx hb dX14_putMethod_195 rfl (lv_at hl 1 rfl) ?_
        refine lv_aload_n hx hb dX14_putMethod_196 rfl (lv_at hl 0 rfl) ?_
        refine va_get (D := rD g) (ci := 13) (v := .int (qI S9 0 122)) (C := RX14) (T := TX14) (N := 143) hx hb hts in2X14 hown hR.K hR.P 0 (hR.at14 hR.w.1) rfl 122 (by decide) (hts _ kx_805) (fun _ h9 => h9) rfl dX14_putMethod_197 ?_
        refine lv_iload_n hx hb dX14_putMethod_200 rfl (lv_at hl 3 rfl) ?_
        refine lv_isub hx hb dX14_putMethod_201 ?_
        refine lv_topi (fun z12 ez12 => ?_)
        obtain rfl : z12 = ((qI S9 0 122) - v21_3) := ez12
        obtain ⟨hv13, h⟩ := h
        refine va_iast hx hb hR.K hR.P hR.D hR.sS (qO S9 60 15) 1 (hR.atI hT_b11) rfl (k_ix (x := v21_1) (a := v21_1.toInt) rfl hv13) dX14_putMethod_202 (fun H locs hP hD hS => ?_)
        have hR : Rep g ad A s (wI S9 (qO S9 60 15) v21_1.toInt.toNat ((qI S9 0 122) - v21_3)) H locs := hR.aI hT_b11 hP hD hS
        obtain ⟨S14, eS14⟩ : ∃ z, z = wI S9 (qO S9 60 15) v21_1.toInt.toNat ((qI S9 0 122) - v21_3) := ⟨_, rfl⟩
        rw [← eS14] at hR
        replace h := h S14 eS14
        have hsh : shy S S14 := by rw [eS14]; exact hsh
        refine lv_iconst (v := 0) hx hb dX14_putMethod_203 (by decide) ?_
        refine lv_istore (lv' := [(5, .int 0), (0, .ref (ad 0)), (1, .int v21_1), (2, .int v21_2), (3, .int v21_3), (4, .int v21_4)]) hx hb dX14_putMethod_204 hl (by decide) rfl (fun ls hl => ?_)
        have J_206 : ∀ (n206 : Nat) (U206 : MS) (v206_1 : Int32) (v206_5 : Int32) (H : Heap) (locs : List Loc) (ls : Array Slot), w_putMethod_L206 Q n206 U206 v206_1 v206_5 → shy S U206 → Rep g ad A s U206 H locs → lv_has ls 6 [(0, .ref (ad 0)), (1, .int v206_1), (5, .int v206_5)] → W p l e (headSpec (wt2 yX14_putMethod cX14_putMethod 6 none) ({ frames := 2, cells := 0, slots := 0, locals := 45 })).room s m ([.ref (ad 0), .int x1, .int x2] : List Value).toArray below meth c H locs 0 0 (MQ below (va_Qv (fun (u : MS) => Q u ∧ wfM u ∧ shy S u) (fun (u : MS) (t : State) => qE g ad A u t) A) ([.ref (ad 0), .int x1, .int x2] : List Value).toArray s 0 0 A) (F0 m 206 ls []) := by
          intro n206
          induction n206 with
          | zero => intro U206 v206_1 v206_5 H locs ls h hsh hR hl; unfold w_putMethod_L206 at h; exact h.elim
          | succ n206 ih_206 =>
            intro U206 v206_1 v206_5 H locs ls h hsh hR hl
            unfold w_putMethod_L206 at h
            refine lv_iload hx hb dX14_putMethod_206 (lv_at hl 2 rfl) ?_
            refine lv_aload_n hx hb dX14_putMethod_208 rfl (lv_at hl 0 rfl) ?_
            refine va_get (D := rD g) (ci := 13) (v := .int (qI U206 0 129)) (C := RX14) (T := TX14) (N := 143) hx hb hts in2X14 hown hR.K hR.P 0 (hR.at14 hR.w.1) rfl 129 (by decide) (hts _ kx_691) (fun _ h9 => h9) rfl dX14_putMethod_209 ?_
            refine lv_icmp_ge (tgt := 244) hx hb dX14_putMethod_212 (by decide) (fun c15 => ?_) (fun c15 => ?_)
            · replace h := h.1 (k_le rfl rfl c15)
              refine lv_aload_n hx hb dX14_putMethod_244 rfl (lv_at hl 0 rfl) ?_
              refine va_get (D := rD g) (ci := 13) (v := .ref (ad 60)) (C := RX14) (T := TX14) (N := 143) hx hb hts in2X14 hown hR.K hR.P 0 (hR.at14 hR.w.1) rfl 118 (by decide) (hts _ kx_802) (fun _ h9 => h9) (congrArg (fun z => some (vf ad z)) (hR.w.2.1 _ fin_118).1) dX14_putMethod_245 ?_
              obtain ⟨hv16, h⟩ := h
              have hT_b17 : qT U206 (qO U206 60 16) = 2 := hR.w.ref hv16 (hR.w.2.1 _ fin_118).2.1
              refine va_get (D := rD g) (ci := 12) (v := .ref (ad (qO U206 60 16))) (C := RX13) (T := TX13) (N := 23) hx hb hts in2X13 hown hR.K hR.P 60 (hR.at13 (hR.w.2.1 _ fin_118).2.1) rfl 16 (by decide) (hts _ kx_371) (fun _ h9 => h9) (congrArg (fun z => some (vf ad z)) hv16) dX14_putMethod_248 ?_
              refine lv_iload_n hx hb dX14_putMethod_251 rfl (lv_at hl 1 rfl) ?_
              refine lv_aload_n hx hb dX14_putMethod_252 rfl (lv_at hl 0 rfl) ?_
              refine va_get (D := rD g) (ci := 13) (v := .int (qI U206 0 123)) (C := RX14) (T := TX14) (N := 143) hx hb hts in2X14 hown hR.K hR.P 0 (hR.at14 hR.w.1) rfl 123 (by decide) (hts _ kx_806) (fun _ h9 => h9) rfl dX14_putMethod_253 ?_
              obtain ⟨hv18, h⟩ := h
              refine va_iast hx hb hR.K hR.P hR.D hR.sS (qO U206 60 16) 1 (hR.atI hT_b17) rfl (k_ix (x := v206_1) (a := v206_1.toInt) rfl hv18) dX14_putMethod_256 (fun H locs hP hD hS => ?_)
              have hR : Rep g ad A s (wI U206 (qO U206 60 16) v206_1.toInt.toNat (qI U206 0 123)) H locs := hR.aI hT_b17 hP hD hS
              obtain ⟨S19, eS19⟩ : ∃ z, z = wI U206 (qO U206 60 16) v206_1.toInt.toNat (qI U206 0 123) := ⟨_, rfl⟩
              rw [← eS19] at hR
              replace h := h S19 eS19
              have hsh : shy S S19 := by rw [eS19]; exact hsh
              refine lv_iconst (v := 0) hx hb dX14_putMethod_257 (by decide) ?_
              refine lv_istore (lv' := [(5, .int 0), (0, .ref (ad 0)), (1, .int v206_1)]) hx hb dX14_putMethod_258 hl (by decide) rfl (fun ls hl => ?_)
              have J_260 : ∀ (n260 : Nat) (U260 : MS) (v260_1 : Int32) (v260_5 : Int32) (H : Heap) (locs : List Loc) (ls : Array Slot), w_putMethod_L260 Q n260 U260 v260_1 v260_5 → shy S U260 → Rep g ad A s U260 H locs → lv_has ls 6 [(0, .ref (ad 0)), (1, .int v260_1), (5, .int v260_5)] → W p l e (headSpec (wt2 yX14_putMethod cX14_putMethod 6 none) ({ frames := 2, cells := 0, slots := 0, locals := 45 })).room s m ([.ref (ad 0), .int x1, .int x2] : List Value).toArray below meth c H locs 0 0 (MQ below (va_Qv (fun (u : MS) => Q u ∧ wfM u ∧ shy S u) (fun (u : MS) (t : State) => qE g ad A u t) A) ([.ref (ad 0), .int x1, .int x2] : List Value).toArray s 0 0 A) (F0 m 260 ls []) := by
                intro n260
                induction n260 with
                | zero => intro U260 v260_1 v260_5 H locs ls h hsh hR hl; unfold w_putMethod_L260 at h; exact h.elim
                | succ n260 ih_260 =>
                  intro U260 v260_1 v260_5 H locs ls h hsh hR hl
                  unfold w_putMethod_L260 at h
                  refine lv_iload hx hb dX14_putMethod_260 (lv_at hl 2 rfl) ?_
                  refine lv_aload_n hx hb dX14_putMethod_262 rfl (lv_at hl 0 rfl) ?_
                  refine va_get (D := rD g) (ci := 13) (v := .int (qI U260 0 135)) (C := RX14) (T := TX14) (N := 143) hx hb hts in2X14 hown hR.K hR.P 0 (hR.at14 hR.w.1) rfl 135 (by decide) (hts _ kx_704) (fun _ h9 => h9) rfl dX14_putMethod_263 ?_
                  refine lv_icmp_ge (tgt := 291) hx hb dX14_putMethod_266 (by decide) (fun c20 => ?_) (fun c20 => ?_)
                  · replace h := h.1 (k_le rfl rfl c20)
                    refine lv_aload_n hx hb dX14_putMethod_291 rfl (lv_at hl 0 rfl) ?_
                    refine va_get (D := rD g) (ci := 13) (v := .ref (ad 60)) (C := RX14) (T := TX14) (N := 143) hx hb hts in2X14 hown hR.K hR.P 0 (hR.at14 hR.w.1) rfl 118 (by decide) (hts _ kx_802) (fun _ h9 => h9) (congrArg (fun z => some (vf ad z)) (hR.w.2.1 _ fin_118).1) dX14_putMethod_292 ?_
                    obtain ⟨hv21, h⟩ := h
                    have hT_b22 : qT U260 (qO U260 60 17) = 2 := hR.w.ref hv21 (hR.w.2.1 _ fin_118).2.1
                    refine va_get (D := rD g) (ci := 12) (v := .ref (ad (qO U260 60 17))) (C := RX13) (T := TX13) (N := 23) hx hb hts in2X13 hown hR.K hR.P 60 (hR.at13 (hR.w.2.1 _ fin_118).2.1) rfl 17 (by decide) (hts _ kx_373) (fun _ h9 => h9) (congrArg (fun z => some (vf ad z)) hv21) dX14_putMethod_295 ?_
                    refine lv_iload_n hx hb dX14_putMethod_298 rfl (lv_at hl 1 rfl) ?_
                    refine lv_aload_n hx hb dX14_putMethod_299 rfl (lv_at hl 0 rfl) ?_
                    refine va_get (D := rD g) (ci := 13) (v := .int (qI U260 0 123)) (C := RX14) (T := TX14) (N := 143) hx hb hts in2X14 hown hR.K hR.P 0 (hR.at14 hR.w.1) rfl 123 (by decide) (hts _ kx_806) (fun _ h9 => h9) rfl dX14_putMethod_300 ?_
                    refine lv_aload_n hx hb dX14_putMethod_303 rfl (lv_at hl 0 rfl) ?_
                    refine va_get (D := rD g) (ci := 13) (v := .ref (ad 60)) (C := RX14) (T := TX14) (N := 143) hx hb hts in2X14 hown hR.K hR.P 0 (hR.at14 hR.w.1) rfl 118 (by decide) (hts _ kx_802) (fun _ h9 => h9) (congrArg (fun z => some (vf ad z)) (hR.w.2.1 _ fin_118).1) dX14_putMethod_304 ?_
                    obtain ⟨hv23, h⟩ := h
                    have hT_b24 : qT U260 (qO U260 60 16) = 2 := hR.w.ref hv23 (hR.w.2.1 _ fin_118).2.1
                    refine va_get (D := rD g) (ci := 12) (v := .ref (ad (qO U260 60 16))) (C := RX13) (T := TX13) (N := 23) hx hb hts in2X13 hown hR.K hR.P 60 (hR.at13 (hR.w.2.1 _ fin_118).2.1) rfl 16 (by decide) (hts _ kx_371) (fun _ h9 => h9) (congrArg (fun z => some (vf ad z)) hv23) dX14_putMethod_307 ?_
                    refine lv_iload_n hx hb dX14_putMethod_310 rfl (lv_at hl 1 rfl) ?_
                    obtain ⟨hv25, h⟩ := h
                    refine va_iald hx hb hR.K hR.P (qO U260 60 16) 1 (hR.atI hT_b24) rfl (k_ix (x := v260_1) (a := v260_1.toInt) rfl hv25) dX14_putMethod_311 ?_
                    refine lv_topi (fun z26 ez26 => ?_)
                    obtain rfl : z26 = (qI U260 (qO U260 60 16) v260_1.toInt.toNat) := ez26
                    refine lv_isub hx hb dX14_putMethod_312 ?_
                    refine lv_topi (fun z27 ez27 => ?_)
                    obtain rfl : z27 = ((qI U260 0 123) - (qI U260 (qO U260 60 16) v260_1.toInt.toNat)) := ez27
                    obtain ⟨hv28, h⟩ := h
                    refine va_iast hx hb hR.K hR.P hR.D hR.sS (qO U260 60 17) 1 (hR.atI hT_b22) rfl (k_ix (x := v260_1) (a := v260_1.toInt) rfl hv28) dX14_putMethod_313 (fun H locs hP hD hS => ?_)
                    have hR : Rep g ad A s (wI U260 (qO U260 60 17) v260_1.toInt.toNat ((qI U260 0 123) - (qI U260 (qO U260 60 16) v260_1.toInt.toNat))) H locs := hR.aI hT_b22 hP hD hS
                    obtain ⟨S29, eS29⟩ : ∃ z, z = wI U260 (qO U260 60 17) v260_1.toInt.toNat ((qI U260 0 123) - (qI U260 (qO U260 60 16) v260_1.toInt.toNat)) := ⟨_, rfl⟩
                    rw [← eS29] at hR
                    replace h := h S29 eS29
                    have hsh : shy S S29 := by rw [eS29]; exact hsh
                    exact W.vret hx hb hr (fun t9 ht9 hW9 => ⟨⟨S29, rfl, ⟨h, hR.w, hsh⟩, ⟨by rw [ht9]; exact hR.P, hR.D⟩⟩, hR.sS.F ht9⟩) hR.sS.2.2 dX14_putMethod_314
                  · replace h := h.2 (k_nle rfl rfl c20)
                    refine lv_aload_n hx hb dX14_putMethod_269 rfl (lv_at hl 0 rfl) ?_
                    refine va_get (D := rD g) (ci := 13) (v := .ref (ad 86)) (C := RX14) (T := TX14) (N := 143) hx hb hts in2X14 hown hR.K hR.P 0 (hR.at14 hR.w.1) rfl 134 (by decide) (hts _ kx_701) (fun _ h9 => h9) (congrArg (fun z => some (vf ad z)) (hR.w.2.1 _ fin_134).1) dX14_putMethod_270 ?_
                    refine lv_iload hx hb dX14_putMethod_273 (lv_at hl 2 rfl) ?_
                    obtain ⟨hv30, h⟩ := h
                    refine va_zald hx hb hR.K hR.P 86 2 (hR.atZ (hR.w.2.1 _ fin_134).2.1) rfl (k_ixN (k_ix (n := 16) (x := v260_5) (a := v260_5.toInt) rfl hv30) (hR.w.2.1 _ fin_134).2.2) dX14_putMethod_275 ?_
                    refine lv_topi (fun z31 ez31 => ?_)
                    obtain rfl : z31 = (qI U260 86 v260_5.toInt.toNat) := ez31
                    have J_285 : ∀ (U285 : MS) (v285_1 : Int32) (v285_5 : Int32) (H : Heap) (locs : List Loc) (ls : Array Slot), w_putMethod_J285 Q (w_putMethod_L260 Q n260) U285 v285_1 v285_5 → shy S U285 → Rep g ad A s U285 H locs → lv_has ls 6 [(0, .ref (ad 0)), (1, .int v285_1), (5, .int v285_5)] → W p l e (headSpec (wt2 yX14_putMethod cX14_putMethod 6 none) ({ frames := 2, cells := 0, slots := 0, locals := 45 })).room s m ([.ref (ad 0), .int x1, .int x2] : List Value).toArray below meth c H locs 0 0 (MQ below (va_Qv (fun (u : MS) => Q u ∧ wfM u ∧ shy S u) (fun (u : MS) (t : State) => qE g ad A u t) A) ([.ref (ad 0), .int x1, .int x2] : List Value).toArray s 0 0 A) (F0 m 285 ls []) := by
                      intro U285 v285_1 v285_5 H locs ls h hsh hR hl
                      unfold w_putMethod_J285 at h
                      obtain ⟨a32, ea32⟩ : ∃ z, z = (v285_5 + Int32.ofInt 1) := ⟨_, rfl⟩
                      replace h := h a32 ea32
                      refine lv_iinc (v := a32) (lv' := [(5, .int a32), (0, .ref (ad 0)), (1, .int v285_1)]) hx hb dX14_putMethod_285 hl (k := 2) rfl ea32.symm (by decide) rfl (fun ls hl => ?_)
                      refine lv_goto (tgt := 260) hx hb dX14_putMethod_288 (by decide) ?_
                      exact ih_260 U285 v285_1 a32 _ _ ls h  hsh hR (lv_sub hl [1, 2, 0] rfl)
                    refine lv_if_ne (tgt := 285) hx hb dX14_putMethod_276 (by decide) (fun c33 => ?_) (fun c33 => ?_)
                    · replace h := h.2 (k_ne rfl (by decide) c33)
                      exact J_285 U260 v260_1 v260_5 _ _ ls h  hsh hR (lv_sub hl [0, 1, 2] rfl)
                    · replace h := h.1 (k_eq rfl (by decide) c33)
                      refine lv_aload_n hx hb dX14_putMethod_279 rfl (lv_at hl 0 rfl) ?_
                      refine lv_iload hx hb dX14_putMethod_280 (lv_at hl 2 rfl) ?_
                      obtain ⟨Q34, h0, h⟩ := h
                      have hFc := rfree hR hA
                      refine va_callv (va_runV (As := [.int v260_5]) (rest := []) ⟨hx, hb, hml, hown, hts⟩ (r_draftCatch l g ad H.size U260 v260_5 hR.w  Q34 h0) (cwV 1 hts (gd2_V kx_808 kx_809 kx_810 kx_177 kx_811) rfl rfl rfl (by decide +kernel) ⟨Nat.le_of_ble_eq_true rfl, Nat.le_of_ble_eq_true rfl⟩) ⟨rblind, va_recv hR.K hR.P (ci := 13) (q0 := 0) rfl (hR.at14 hR.w.1), fun U hU hW9 => rmk hU hW9 hR hex hE hFc⟩ rfl rfl hl.1 rfl (lv_room (Nat.le_of_ble_eq_true rfl)) dX14_putMethod_282 ⟨Nat.le_of_ble_eq_true rfl, Nat.le_of_ble_eq_true rfl⟩) hR.sS (fun q _ h => hFc q h) hFc (fun  S35 t9 H1 locs ht9 hvm9 hw9 hB9 hz9 hk9 hS => ?_)
                      obtain ⟨hq36, hw9, hs9⟩ := hw9
                      have hR : Rep g ad A s S35 H1 locs := hR.call ht9 hB9 hw9 hS hFc
                      have hsh := hsh.tr hs9
                      replace h := h  S35 hq36
                      clear hB9 hz9 hk9 hvm9 ht9 hw9 hs9 hS
                      generalize H1 = H at hR ⊢
                      exact J_285 S35 v260_1 v260_5 _ _ ls h  hsh hR (lv_sub hl [0, 1, 2] rfl)
              obtain ⟨n9, h⟩ := h
              exact J_260 n9 S19 v206_1 0 _ _ ls h  hsh hR (lv_sub hl [1, 2, 0] rfl)
            · replace h := h.2 (k_nle rfl rfl c15)
              refine lv_aload_n hx hb dX14_putMethod_215 rfl (lv_at hl 0 rfl) ?_
              refine va_get (D := rD g) (ci := 13) (v := .ref (ad 81)) (C := RX14) (T := TX14) (N := 143) hx hb hts in2X14 hown hR.K hR.P 0 (hR.at14 hR.w.1) rfl 128 (by decide) (hts _ kx_692) (fun _ h9 => h9) (congrArg (fun z => some (vf ad z)) (hR.w.2.1 _ fin_128).1) dX14_putMethod_216 ?_
              refine lv_iload hx hb dX14_putMethod_219 (lv_at hl 2 rfl) ?_
              obtain ⟨hv37, h⟩ := h
              refine va_zald hx hb hR.K hR.P 81 2 (hR.atZ (hR.w.2.1 _ fin_128).2.1) rfl (k_ixN (k_ix (n := 1200) (x := v206_5) (a := v206_5.toInt) rfl hv37) (hR.w.2.1 _ fin_128).2.2) dX14_putMethod_221 ?_
              refine lv_topi (fun z38 ez38 => ?_)
              obtain rfl : z38 = (qI U206 81 v206_5.toInt.toNat) := ez38
              have J_238 : ∀ (U238 : MS) (v238_1 : Int32) (v238_5 : Int32) (H : Heap) (locs : List Loc) (ls : Array Slot), w_putMethod_J238 Q (w_putMethod_L206 Q n206) U238 v238_1 v238_5 → shy S U238 → Rep g ad A s U238 H locs → lv_has ls 6 [(0, .ref (ad 0)), (1, .int v238_1), (5, .int v238_5)] → W p l e (headSpec (wt2 yX14_putMethod cX14_putMethod 6 none) ({ frames := 2, cells := 0, slots := 0, locals := 45 })).room s m ([.ref (ad 0), .int x1, .int x2] : List Value).toArray below meth c H locs 0 0 (MQ below (va_Qv (fun (u : MS) => Q u ∧ wfM u ∧ shy S u) (fun (u : MS) (t : State) => qE g ad A u t) A) ([.ref (ad 0), .int x1, .int x2] : List Value).toArray s 0 0 A) (F0 m 238 ls []) := by
                intro U238 v238_1 v238_5 H locs ls h hsh hR hl
                unfold w_putMethod_J238 at h
                obtain ⟨a39, ea39⟩ : ∃ z, z = (v238_5 + Int32.ofInt 1) := ⟨_, rfl⟩
                replace h := h a39 ea39
                refine lv_iinc (v := a39) (lv' := [(5, .int a39), (0, .ref (ad 0)), (1, .int v238_1)]) hx hb dX14_putMethod_238 hl (k := 2) rfl ea39.symm (by decide) rfl (fun ls hl => ?_)
                refine lv_goto (tgt := 206) hx hb dX14_putMethod_241 (by decide) ?_
                exact ih_206 U238 v238_1 a39 _ _ ls h  hsh hR (lv_sub hl [1, 2, 0] rfl)
              refine lv_if_ne (tgt := 238) hx hb dX14_putMethod_222 (by decide) (fun c40 => ?_) (fun c40 => ?_)
              · replace h := h.2 (k_ne rfl (by decide) c40)
                exact J_238 U206 v206_1 v206_5 _ _ ls h  hsh hR (lv_sub hl [0, 1, 2] rfl)
              · replace h := h.1 (k_eq rfl (by decide) c40)
                refine lv_aload_n hx hb dX14_putMethod_225 rfl (lv_at hl 0 rfl) ?_
                refine lv_iload hx hb dX14_putMethod_226 (lv_at hl 2 rfl) ?_
                refine lv_aload_n hx hb dX14_putMethod_228 rfl (lv_at hl 0 rfl) ?_
                refine va_get (D := rD g) (ci := 13) (v := .ref (ad 92)) (C := RX14) (T := TX14) (N := 143) hx hb hts in2X14 hown hR.K hR.P 0 (hR.at14 hR.w.1) rfl 142 (by decide) (hts _ kx_812) (fun _ h9 => h9) (congrArg (fun z => some (vf ad z)) (hR.w.2.1 _ fin_142).1) dX14_putMethod_229 ?_
                refine lv_iload hx hb dX14_putMethod_232 (lv_at hl 2 rfl) ?_
                obtain ⟨hv41, h⟩ := h
                refine va_iald hx hb hR.K hR.P 92 1 (hR.atI (hR.w.2.1 _ fin_142).2.1) rfl (k_ixN (k_ix (n := 1200) (x := v206_5) (a := v206_5.toInt) rfl hv41) (hR.w.2.1 _ fin_142).2.2) dX14_putMethod_234 ?_
                refine lv_topi (fun z42 ez42 => ?_)
                obtain rfl : z42 = (qI U206 92 v206_5.toInt.toNat) := ez42
                obtain ⟨Q43, h0, h⟩ := h
                have hFc := rfree hR hA
                refine va_callv (va_runV (As := [.int v206_5, .int (qI U206 92 v206_5.toInt.toNat)]) (rest := []) ⟨hx, hb, hml, hown, hts⟩ (r_aimRow l g ad H.size U206 v206_5 (qI U206 92 v206_5.toInt.toNat) hR.w  Q43 h0) (cwV 2 hts (gd2_V kx_813 kx_814 kx_815 kx_177 kx_816) rfl rfl rfl (by decide +kernel) ⟨Nat.le_of_ble_eq_true rfl, Nat.le_of_ble_eq_true rfl⟩) ⟨rblind, va_recv hR.K hR.P (ci := 13) (q0 := 0) rfl (hR.at14 hR.w.1), fun U hU hW9 => rmk hU hW9 hR hex hE hFc⟩ rfl rfl hl.1 rfl (lv_room (Nat.le_of_ble_eq_true rfl)) dX14_putMethod_235 ⟨Nat.le_of_ble_eq_true rfl, Nat.le_of_ble_eq_true rfl⟩) hR.sS (fun q _ h => hFc q h) hFc (fun  S44 t9 H1 locs ht9 hvm9 hw9 hB9 hz9 hk9 hS => ?_)
                obtain ⟨hq45, hw9, hs9⟩ := hw9
                have hR : Rep g ad A s S44 H1 locs := hR.call ht9 hB9 hw9 hS hFc
                have hsh := hsh.tr hs9
                replace h := h  S44 hq45
                clear hB9 hz9 hk9 hvm9 ht9 hw9 hs9 hS
                generalize H1 = H at hR ⊢
                exact J_238 S44 v206_1 v206_5 _ _ ls h  hsh hR (lv_sub hl [0, 1, 2] rfl)
        obtain ⟨n9, h⟩ := h
        exact J_206 n9 S14 v21_1 0 _ _ ls h  hsh hR (lv_sub hl [1, 2, 0] rfl)
      · replace h := h.2 (k_nle rfl rfl c6)
        refine lv_aload_n hx hb dX14_putMethod_30 rfl (lv_at hl 0 rfl) ?_
        refine va_get (D := rD g) (ci := 13) (v := .ref (ad 91)) (C := RX14) (T := TX14) (N := 143) hx hb hts in2X14 hown hR.K hR.P 0 (hR.at14 hR.w.1) rfl 141 (by decide) (hts _ kx_807) (fun _ h9 => h9) (congrArg (fun z => some (vf ad z)) (hR.w.2.1 _ fin_141).1) dX14_putMethod_31 ?_
        refine lv_iload hx hb dX14_putMethod_34 (lv_at hl 5 rfl) ?_
        refine lv_aload_n hx hb dX14_putMethod_36 rfl (lv_at hl 0 rfl) ?_
        refine va_get (D := rD g) (ci := 13) (v := .int (qI U21 0 122)) (C := RX14) (T := TX14) (N := 143) hx hb hts in2X14 hown hR.K hR.P 0 (hR.at14 hR.w.1) rfl 122 (by decide) (hts _ kx_805) (fun _ h9 => h9) rfl dX14_putMethod_37 ?_
        refine lv_iload_n hx hb dX14_putMethod_40 rfl (lv_at hl 3 rfl) ?_
        refine lv_isub hx hb dX14_putMethod_41 ?_
        refine lv_topi (fun z46 ez46 => ?_)
        obtain rfl : z46 = ((qI U21 0 122) - v21_3) := ez46
        obtain ⟨hv47, h⟩ := h
        refine va_iast hx hb hR.K hR.P hR.D hR.sS 91 1 (hR.atI (hR.w.2.1 _ fin_141).2.1) rfl (k_ixN (k_ix (n := 1201) (x := v21_5) (a := v21_5.toInt) rfl hv47) (hR.w.2.1 _ fin_141).2.2) dX14_putMethod_42 (fun H locs hP hD hS => ?_)
        have hR : Rep g ad A s (wI U21 91 v21_5.toInt.toNat ((qI U21 0 122) - v21_3)) H locs := hR.aI (hR.w.2.1 _ fin_141).2.1 hP hD hS
        obtain ⟨S48, eS48⟩ : ∃ z, z = wI U21 91 v21_5.toInt.toNat ((qI U21 0 122) - v21_3) := ⟨_, rfl⟩
        rw [← eS48] at hR
        replace h := h S48 eS48
        have hsh : shy S S48 := by rw [eS48]; exact hsh
        refine lv_aload_n hx hb dX14_putMethod_43 rfl (lv_at hl 0 rfl) ?_
        refine va_get (D := rD g) (ci := 13) (v := .ref (ad 81)) (C := RX14) (T := TX14) (N := 143) hx hb hts in2X14 hown hR.K hR.P 0 (hR.at14 hR.w.1) rfl 128 (by decide) (hts _ kx_692) (fun _ h9 => h9) (congrArg (fun z => some (vf ad z)) (hR.w.2.1 _ fin_128).1) dX14_putMethod_44 ?_
        refine lv_iload hx hb dX14_putMethod_47 (lv_at hl 5 rfl) ?_
        obtain ⟨hv49, h⟩ := h
        refine va_zald hx hb hR.K hR.P 81 2 (hR.atZ (hR.w.2.1 _ fin_128).2.1) rfl (k_ixN (k_ix (n := 1200) (x := v21_5) (a := v21_5.toInt) rfl hv49) (hR.w.2.1 _ fin_128).2.2) dX14_putMethod_49 ?_
        refine lv_topi (fun z50 ez50 => ?_)
        obtain rfl : z50 = (qI S48 81 v21_5.toInt.toNat) := ez50
        have J_167 : ∀ (U167 : MS) (v167_1 : Int32) (v167_2 : Int32) (v167_3 : Int32) (v167_4 : Int32) (v167_5 : Int32) (H : Heap) (locs : List Loc) (ls : Array Slot), w_putMethod_J167 Q (w_putMethod_L21 Q n21) U167 v167_1 v167_2 v167_3 v167_4 v167_5 → shy S U167 → Rep g ad A s U167 H locs → lv_has ls 6 [(0, .ref (ad 0)), (1, .int v167_1), (2, .int v167_2), (3, .int v167_3), (4, .int v167_4), (5, .int v167_5)] → W p l e (headSpec (wt2 yX14_putMethod cX14_putMethod 6 none) ({ frames := 2, cells := 0, slots := 0, locals := 45 })).room s m ([.ref (ad 0), .int x1, .int x2] : List Value).toArray below meth c H locs 0 0 (MQ below (va_Qv (fun (u : MS) => Q u ∧ wfM u ∧ shy S u) (fun (u : MS) (t : State) => qE g ad A u t) A) ([.ref (ad 0), .int x1, .int x2] : List Value).toArray s 0 0 A) (F0 m 167 ls []) := by
          intro U167 v167_1 v167_2 v167_3 v167_4 v167_5 H locs ls h hsh hR hl
          unfold w_putMethod_J167 at h
          obtain ⟨a51, ea51⟩ : ∃ z, z = (v167_5 + Int32.ofInt 1) := ⟨_, rfl⟩
          replace h := h a51 ea51
          refine lv_iinc (v := a51) (lv' := [(5, .int a51), (0, .ref (ad 0)), (1, .int v167_1), (2, .int v167_2), (3, .int v167_3), (4, .int v167_4)]) hx hb dX14_putMethod_167 hl (k := 5) rfl ea51.symm (by decide) rfl (fun ls hl => ?_)
          refine lv_goto (tgt := 21) hx hb dX14_putMethod_170 (by decide) ?_
          exact ih_21 U167 v167_1 v167_2 v167_3 v167_4 a51 _ _ ls h  hsh hR (lv_sub hl [1, 2, 3, 4, 5, 0] rfl)
        refine lv_if_eq (tgt := 56) hx hb dX14_putMethod_50 (by decide) (fun c52 => ?_) (fun c52 => ?_)
        · replace h := h.1 (k_eq rfl (by decide) c52)
          refine lv_iload_n hx hb dX14_putMethod_56 rfl (lv_at hl 2 rfl) ?_
          have J_131 : ∀ (U131 : MS) (v131_1 : Int32) (v131_2 : Int32) (v131_3 : Int32) (v131_4 : Int32) (v131_5 : Int32) (H : Heap) (locs : List Loc) (ls : Array Slot), w_putMethod_J131 Q (w_putMethod_L21 Q n21) U131 v131_1 v131_2 v131_3 v131_4 v131_5 → shy S U131 → Rep g ad A s U131 H locs → lv_has ls 6 [(0, .ref (ad 0)), (1, .int v131_1), (2, .int v131_2), (3, .int v131_3), (4, .int v131_4), (5, .int v131_5)] → W p l e (headSpec (wt2 yX14_putMethod cX14_putMethod 6 none) ({ frames := 2, cells := 0, slots := 0, locals := 45 })).room s m ([.ref (ad 0), .int x1, .int x2] : List Value).toArray below meth c H locs 0 0 (MQ below (va_Qv (fun (u : MS) => Q u ∧ wfM u ∧ shy S u) (fun (u : MS) (t : State) => qE g ad A u t) A) ([.ref (ad 0), .int x1, .int x2] : List Value).toArray s 0 0 A) (F0 m 131 ls []) := by
            intro U131 v131_1 v131_2 v131_3 v131_4 v131_5 H locs ls h hsh hR hl
            unfold w_putMethod_J131 at h
            refine lv_aload_n hx hb dX14_putMethod_131 rfl (lv_at hl 0 rfl) ?_
            refine va_get (D := rD g) (ci := 13) (v := .ref (ad 92)) (C := RX14) (T := TX14) (N := 143) hx hb hts in2X14 hown hR.K hR.P 0 (hR.at14 hR.w.1) rfl 142 (by decide) (hts _ kx_812) (fun _ h9 => h9) (congrArg (fun z => some (vf ad z)) (hR.w.2.1 _ fin_142).1) dX14_putMethod_132 ?_
            refine lv_iload hx hb dX14_putMethod_135 (lv_at hl 5 rfl) ?_
            refine lv_aload_n hx hb dX14_putMethod_137 rfl (lv_at hl 0 rfl) ?_
            refine va_get (D := rD g) (ci := 13) (v := .int (qI U131 0 122)) (C := RX14) (T := TX14) (N := 143) hx hb hts in2X14 hown hR.K hR.P 0 (hR.at14 hR.w.1) rfl 122 (by decide) (hts _ kx_805) (fun _ h9 => h9) rfl dX14_putMethod_138 ?_
            obtain ⟨hv53, h⟩ := h
            refine va_iast hx hb hR.K hR.P hR.D hR.sS 92 1 (hR.atI (hR.w.2.1 _ fin_142).2.1) rfl (k_ixN (k_ix (n := 1200) (x := v131_5) (a := v131_5.toInt) rfl hv53) (hR.w.2.1 _ fin_142).2.2) dX14_putMethod_141 (fun H locs hP hD hS => ?_)
            have hR : Rep g ad A s (wI U131 92 v131_5.toInt.toNat (qI U131 0 122)) H locs := hR.aI (hR.w.2.1 _ fin_142).2.1 hP hD hS
            obtain ⟨S54, eS54⟩ : ∃ z, z = wI U131 92 v131_5.toInt.toNat (qI U131 0 122) := ⟨_, rfl⟩
            rw [← eS54] at hR
            replace h := h S54 eS54
            have hsh : shy S S54 := by rw [eS54]; exact hsh
            refine lv_aload_n hx hb dX14_putMethod_142 rfl (lv_at hl 0 rfl) ?_
            refine lv_aload_n hx hb dX14_putMethod_143 rfl (lv_at hl 0 rfl) ?_
            refine va_get (D := rD g) (ci := 13) (v := .ref (ad 78)) (C := RX14) (T := TX14) (N := 143) hx hb hts in2X14 hown hR.K hR.P 0 (hR.at14 hR.w.1) rfl 125 (by decide) (hts _ kx_697) (fun _ h9 => h9) (congrArg (fun z => some (vf ad z)) (hR.w.2.1 _ fin_125).1) dX14_putMethod_144 ?_
            refine lv_iload hx hb dX14_putMethod_147 (lv_at hl 5 rfl) ?_
            obtain ⟨hv55, h⟩ := h
            refine va_iald hx hb hR.K hR.P 78 1 (hR.atI (hR.w.2.1 _ fin_125).2.1) rfl (k_ixN (k_ix (n := 1200) (x := v131_5) (a := v131_5.toInt) rfl hv55) (hR.w.2.1 _ fin_125).2.2) dX14_putMethod_149 ?_
            refine lv_topi (fun z56 ez56 => ?_)
            obtain rfl : z56 = (qI S54 78 v131_5.toInt.toNat) := ez56
            refine lv_aload_n hx hb dX14_putMethod_150 rfl (lv_at hl 0 rfl) ?_
            refine va_get (D := rD g) (ci := 13) (v := .ref (ad 79)) (C := RX14) (T := TX14) (N := 143) hx hb hts in2X14 hown hR.K hR.P 0 (hR.at14 hR.w.1) rfl 126 (by decide) (hts _ kx_700) (fun _ h9 => h9) (congrArg (fun z => some (vf ad z)) (hR.w.2.1 _ fin_126).1) dX14_putMethod_151 ?_
            refine lv_iload hx hb dX14_putMethod_154 (lv_at hl 5 rfl) ?_
            obtain ⟨hv57, h⟩ := h
            refine va_iald hx hb hR.K hR.P 79 1 (hR.atI (hR.w.2.1 _ fin_126).2.1) rfl (k_ixN (k_ix (n := 1200) (x := v131_5) (a := v131_5.toInt) rfl hv57) (hR.w.2.1 _ fin_126).2.2) dX14_putMethod_156 ?_
            refine lv_topi (fun z58 ez58 => ?_)
            obtain rfl : z58 = (qI S54 79 v131_5.toInt.toNat) := ez58
            refine lv_aload_n hx hb dX14_putMethod_157 rfl (lv_at hl 0 rfl) ?_
            refine va_get (D := rD g) (ci := 13) (v := .ref (ad 80)) (C := RX14) (T := TX14) (N := 143) hx hb hts in2X14 hown hR.K hR.P 0 (hR.at14 hR.w.1) rfl 127 (by decide) (hts _ kx_698) (fun _ h9 => h9) (congrArg (fun z => some (vf ad z)) (hR.w.2.1 _ fin_127).1) dX14_putMethod_158 ?_
            refine lv_iload hx hb dX14_putMethod_161 (lv_at hl 5 rfl) ?_
            obtain ⟨hv59, h⟩ := h
            refine va_iald hx hb hR.K hR.P 80 1 (hR.atI (hR.w.2.1 _ fin_127).2.1) rfl (k_ixN (k_ix (n := 1200) (x := v131_5) (a := v131_5.toInt) rfl hv59) (hR.w.2.1 _ fin_127).2.2) dX14_putMethod_163 ?_
            refine lv_topi (fun z60 ez60 => ?_)
            obtain rfl : z60 = (qI S54 80 v131_5.toInt.toNat) := ez60
            obtain ⟨Q61, h0, h⟩ := h
            have hFc := rfree hR hA
            refine va_callv (va_runV (As := [.int (qI S54 78 v131_5.toInt.toNat), .int (qI S54 79 v131_5.toInt.toNat), .int (qI S54 80 v131_5.toInt.toNat)]) (rest := []) ⟨hx, hb, hml, hown, hts⟩ (r_draftRow l g ad H.size S54 (qI S54 78 v131_5.toInt.toNat) (qI S54 79 v131_5.toInt.toNat) (qI S54 80 v131_5.toInt.toNat) hR.w  Q61 h0) (cwV 3 hts (gd2_V kx_817 kx_818 kx_819 kx_177 kx_820) rfl rfl rfl (by decide +kernel) ⟨Nat.le_of_ble_eq_true rfl, Nat.le_of_ble_eq_true rfl⟩) ⟨rblind, va_recv hR.K hR.P (ci := 13) (q0 := 0) rfl (hR.at14 hR.w.1), fun U hU hW9 => rmk hU hW9 hR hex hE hFc⟩ rfl rfl hl.1 rfl (lv_room (Nat.le_of_ble_eq_true rfl)) dX14_putMethod_164 ⟨Nat.le_of_ble_eq_true rfl, Nat.le_of_ble_eq_true rfl⟩) hR.sS (fun q _ h => hFc q h) hFc (fun  S62 t9 H1 locs ht9 hvm9 hw9 hB9 hz9 hk9 hS => ?_)
            obtain ⟨hq63, hw9, hs9⟩ := hw9
            have hR : Rep g ad A s S62 H1 locs := hR.call ht9 hB9 hw9 hS hFc
            have hsh := hsh.tr hs9
            replace h := h  S62 hq63
            clear hB9 hz9 hk9 hvm9 ht9 hw9 hs9 hS
            generalize H1 = H at hR ⊢
            exact J_167 S62 v131_1 v131_2 v131_3 v131_4 v131_5 _ _ ls h  hsh hR (lv_sub hl [0, 1, 2, 3, 4, 5] rfl)
          refine lv_if_lt (tgt := 131) hx hb dX14_putMethod_57 (by decide) (fun c64 => ?_) (fun c64 => ?_)
          · replace h := h.1 (k_lt rfl (by decide) c64)
            exact J_131 S48 v21_1 v21_2 v21_3 v21_4 v21_5 _ _ ls h  hsh hR (lv_sub hl [0, 1, 2, 3, 4, 5] rfl)
          · replace h := h.2 (k_nlt rfl (by decide) c64)
            refine lv_aload_n hx hb dX14_putMethod_60 rfl (lv_at hl 0 rfl) ?_
            refine va_get (D := rD g) (ci := 13) (v := .ref (ad 49)) (C := RX14) (T := TX14) (N := 143) hx hb hts in2X14 hown hR.K hR.P 0 (hR.at14 hR.w.1) rfl 103 (by decide) (hts _ kx_671) (fun _ h9 => h9) (congrArg (fun z => some (vf ad z)) (hR.w.2.1 _ fin_103).1) dX14_putMethod_61 ?_
            refine lv_aload_n hx hb dX14_putMethod_64 rfl (lv_at hl 0 rfl) ?_
            refine va_get (D := rD g) (ci := 13) (v := .ref (ad 50)) (C := RX14) (T := TX14) (N := 143) hx hb hts in2X14 hown hR.K hR.P 0 (hR.at14 hR.w.1) rfl 104 (by decide) (hts _ kx_669) (fun _ h9 => h9) (congrArg (fun z => some (vf ad z)) (hR.w.2.1 _ fin_104).1) dX14_putMethod_65 ?_
            refine lv_iload hx hb dX14_putMethod_68 (lv_at hl 5 rfl) ?_
            obtain ⟨hv65, h⟩ := h
            refine va_iald hx hb hR.K hR.P 50 1 (hR.atI (hR.w.2.1 _ fin_104).2.1) rfl (k_ixN (k_ix (n := 1201) (x := v21_5) (a := v21_5.toInt) rfl hv65) (hR.w.2.1 _ fin_104).2.2) dX14_putMethod_70 ?_
            refine lv_topi (fun z66 ez66 => ?_)
            obtain rfl : z66 = (qI S48 50 v21_5.toInt.toNat) := ez66
            obtain ⟨hv67, h⟩ := h
            refine va_iald hx hb hR.K hR.P 49 1 (hR.atI (hR.w.2.1 _ fin_103).2.1) rfl (k_ixN (k_ix (n := 1201) (x := (qI S48 50 v21_5.toInt.toNat)) (a := (qI S48 50 v21_5.toInt.toNat).toInt) rfl hv67) (hR.w.2.1 _ fin_103).2.2) dX14_putMethod_71 ?_
            refine lv_topi (fun z68 ez68 => ?_)
            obtain rfl : z68 = (qI S48 49 (((qI S48 50 v21_5.toInt.toNat).toInt).toNat)) := ez68
            refine lv_iload hx hb dX14_putMethod_72 (lv_at hl 5 rfl) ?_
            refine lv_icmp_ne (tgt := 131) hx hb dX14_putMethod_74 (by decide) (fun c69 => ?_) (fun c69 => ?_)
            · replace h := h.2 (k_ne rfl rfl c69)
              exact J_131 S48 v21_1 v21_2 v21_3 v21_4 v21_5 _ _ ls h  hsh hR (lv_sub hl [0, 1, 2, 3, 4, 5] rfl)
            · replace h := h.1 (k_eq rfl rfl c69)
              refine lv_aload_n hx hb dX14_putMethod_77 rfl (lv_at hl 0 rfl) ?_
              refine va_get (D := rD g) (ci := 13) (v := .ref (ad 53)) (C := RX14) (T := TX14) (N := 143) hx hb hts in2X14 hown hR.K hR.P 0 (hR.at14 hR.w.1) rfl 111 (by decide) (hts _ kx_679) (fun _ h9 => h9) (congrArg (fun z => some (vf ad z)) (hR.w.2.1 _ fin_111).1) dX14_putMethod_78 ?_
              refine lv_aload_n hx hb dX14_putMethod_81 rfl (lv_at hl 0 rfl) ?_
              refine va_get (D := rD g) (ci := 13) (v := .ref (ad 50)) (C := RX14) (T := TX14) (N := 143) hx hb hts in2X14 hown hR.K hR.P 0 (hR.at14 hR.w.1) rfl 104 (by decide) (hts _ kx_669) (fun _ h9 => h9) (congrArg (fun z => some (vf ad z)) (hR.w.2.1 _ fin_104).1) dX14_putMethod_82 ?_
              refine lv_iload hx hb dX14_putMethod_85 (lv_at hl 5 rfl) ?_
              obtain ⟨hv70, h⟩ := h
              refine va_iald hx hb hR.K hR.P 50 1 (hR.atI (hR.w.2.1 _ fin_104).2.1) rfl (k_ixN (k_ix (n := 1201) (x := v21_5) (a := v21_5.toInt) rfl hv70) (hR.w.2.1 _ fin_104).2.2) dX14_putMethod_87 ?_
              refine lv_topi (fun z71 ez71 => ?_)
              obtain rfl : z71 = (qI S48 50 v21_5.toInt.toNat) := ez71
              obtain ⟨hv72, h⟩ := h
              refine va_zald hx hb hR.K hR.P 53 2 (hR.atZ (hR.w.2.1 _ fin_111).2.1) rfl (k_ixN (k_ix (n := 1200) (x := (qI S48 50 v21_5.toInt.toNat)) (a := (qI S48 50 v21_5.toInt.toNat).toInt) rfl hv72) (hR.w.2.1 _ fin_111).2.2) dX14_putMethod_88 ?_
              refine lv_topi (fun z73 ez73 => ?_)
              obtain rfl : z73 = (qI S48 53 (((qI S48 50 v21_5.toInt.toNat).toInt).toNat)) := ez73
              refine lv_if_eq (tgt := 131) hx hb dX14_putMethod_89 (by decide) (fun c74 => ?_) (fun c74 => ?_)
              · replace h := h.1 (k_eq rfl (by decide) c74)
                exact J_131 S48 v21_1 v21_2 v21_3 v21_4 v21_5 _ _ ls h  hsh hR (lv_sub hl [0, 1, 2, 3, 4, 5] rfl)
              · replace h := h.2 (k_ne rfl (by decide) c74)
                refine lv_aload_n hx hb dX14_putMethod_92 rfl (lv_at hl 0 rfl) ?_
                refine lv_sipush (v := 178) hx hb dX14_putMethod_93 (by decide) ?_
                refine lv_iload hx hb dX14_putMethod_96 (lv_at hl 4 rfl) ?_
                refine lv_iconst (v := 0) hx hb dX14_putMethod_98 (by decide) ?_
                obtain ⟨Q75, h0, h⟩ := h
                have hFc := rfree hR hA
                refine va_callv (va_runV (As := [.int 178, .int v21_4, .int 0]) (rest := []) ⟨hx, hb, hml, hown, hts⟩ (r_draftRow l g ad H.size S48 (178 : Int32) v21_4 (0 : Int32) hR.w  Q75 h0) (cwV 3 hts (gd2_V kx_817 kx_818 kx_819 kx_177 kx_820) rfl rfl rfl (by decide +kernel) ⟨Nat.le_of_ble_eq_true rfl, Nat.le_of_ble_eq_true rfl⟩) ⟨rblind, va_recv hR.K hR.P (ci := 13) (q0 := 0) rfl (hR.at14 hR.w.1), fun U hU hW9 => rmk hU hW9 hR hex hE hFc⟩ rfl rfl hl.1 rfl (lv_room (Nat.le_of_ble_eq_true rfl)) dX14_putMethod_99 ⟨Nat.le_of_ble_eq_true rfl, Nat.le_of_ble_eq_true rfl⟩) hR.sS (fun q _ h => hFc q h) hFc (fun  S76 t9 H1 locs ht9 hvm9 hw9 hB9 hz9 hk9 hS => ?_)
                obtain ⟨hq77, hw9, hs9⟩ := hw9
                have hR : Rep g ad A s S76 H1 locs := hR.call ht9 hB9 hw9 hS hFc
                have hsh := hsh.tr hs9
                replace h := h  S76 hq77
                clear hB9 hz9 hk9 hvm9 ht9 hw9 hs9 hS
                generalize H1 = H at hR ⊢
                refine lv_aload_n hx hb dX14_putMethod_102 rfl (lv_at hl 0 rfl) ?_
                refine lv_bipush (v := 20) hx hb dX14_putMethod_103 (by decide) ?_
                refine lv_iconst (v := 0) hx hb dX14_putMethod_105 (by decide) ?_
                refine lv_iconst (v := 1) hx hb dX14_putMethod_106 (by decide) ?_
                obtain ⟨Q78, h0, h⟩ := h
                have hFc := rfree hR hA
                refine va_callv (va_runV (As := [.int 20, .int 0, .int 1]) (rest := []) ⟨hx, hb, hml, hown, hts⟩ (r_draftRow l g ad H.size S76 (20 : Int32) (0 : Int32) (1 : Int32) hR.w  Q78 h0) (cwV 3 hts (gd2_V kx_817 kx_818 kx_819 kx_177 kx_820) rfl rfl rfl (by decide +kernel) ⟨Nat.le_of_ble_eq_true rfl, Nat.le_of_ble_eq_true rfl⟩) ⟨rblind, va_recv hR.K hR.P (ci := 13) (q0 := 0) rfl (hR.at14 hR.w.1), fun U hU hW9 => rmk hU hW9 hR hex hE hFc⟩ rfl rfl hl.1 rfl (lv_room (Nat.le_of_ble_eq_true rfl)) dX14_putMethod_107 ⟨Nat.le_of_ble_eq_true rfl, Nat.le_of_ble_eq_true rfl⟩) hR.sS (fun q _ h => hFc q h) hFc (fun  S79 t9 H1 locs ht9 hvm9 hw9 hB9 hz9 hk9 hS => ?_)
                obtain ⟨hq80, hw9, hs9⟩ := hw9
                have hR : Rep g ad A s S79 H1 locs := hR.call ht9 hB9 hw9 hS hFc
                have hsh := hsh.tr hs9
                replace h := h  S79 hq80
                clear hB9 hz9 hk9 hvm9 ht9 hw9 hs9 hS
                generalize H1 = H at hR ⊢
                refine lv_aload_n hx hb dX14_putMethod_110 rfl (lv_at hl 0 rfl) ?_
                refine lv_bipush (v := 97) hx hb dX14_putMethod_111 (by decide) ?_
                refine lv_iconst (v := 0) hx hb dX14_putMethod_113 (by decide) ?_
                refine lv_iconst (v := 0) hx hb dX14_putMethod_114 (by decide) ?_
                obtain ⟨Q81, h0, h⟩ := h
                have hFc := rfree hR hA
                refine va_callv (va_runV (As := [.int 97, .int 0, .int 0]) (rest := []) ⟨hx, hb, hml, hown, hts⟩ (r_draftRow l g ad H.size S79 (97 : Int32) (0 : Int32) (0 : Int32) hR.w  Q81 h0) (cwV 3 hts (gd2_V kx_817 kx_818 kx_819 kx_177 kx_820) rfl rfl rfl (by decide +kernel) ⟨Nat.le_of_ble_eq_true rfl, Nat.le_of_ble_eq_true rfl⟩) ⟨rblind, va_recv hR.K hR.P (ci := 13) (q0 := 0) rfl (hR.at14 hR.w.1), fun U hU hW9 => rmk hU hW9 hR hex hE hFc⟩ rfl rfl hl.1 rfl (lv_room (Nat.le_of_ble_eq_true rfl)) dX14_putMethod_115 ⟨Nat.le_of_ble_eq_true rfl, Nat.le_of_ble_eq_true rfl⟩) hR.sS (fun q _ h => hFc q h) hFc (fun  S82 t9 H1 locs ht9 hvm9 hw9 hB9 hz9 hk9 hS => ?_)
                obtain ⟨hq83, hw9, hs9⟩ := hw9
                have hR : Rep g ad A s S82 H1 locs := hR.call ht9 hB9 hw9 hS hFc
                have hsh := hsh.tr hs9
                replace h := h  S82 hq83
                clear hB9 hz9 hk9 hvm9 ht9 hw9 hs9 hS
                generalize H1 = H at hR ⊢
                refine lv_aload_n hx hb dX14_putMethod_118 rfl (lv_at hl 0 rfl) ?_
                refine lv_sipush (v := 179) hx hb dX14_putMethod_119 (by decide) ?_
                refine lv_iload hx hb dX14_putMethod_122 (lv_at hl 4 rfl) ?_
                refine lv_iconst (v := 0) hx hb dX14_putMethod_124 (by decide) ?_
                obtain ⟨Q84, h0, h⟩ := h
                have hFc := rfree hR hA
                refine va_callv (va_runV (As := [.int 179, .int v21_4, .int 0]) (rest := []) ⟨hx, hb, hml, hown, hts⟩ (r_draftRow l g ad H.size S82 (179 : Int32) v21_4 (0 : Int32) hR.w  Q84 h0) (cwV 3 hts (gd2_V kx_817 kx_818 kx_819 kx_177 kx_820) rfl rfl rfl (by decide +kernel) ⟨Nat.le_of_ble_eq_true rfl, Nat.le_of_ble_eq_true rfl⟩) ⟨rblind, va_recv hR.K hR.P (ci := 13) (q0 := 0) rfl (hR.at14 hR.w.1), fun U hU hW9 => rmk hU hW9 hR hex hE hFc⟩ rfl rfl hl.1 rfl (lv_room (Nat.le_of_ble_eq_true rfl)) dX14_putMethod_125 ⟨Nat.le_of_ble_eq_true rfl, Nat.le_of_ble_eq_true rfl⟩) hR.sS (fun q _ h => hFc q h) hFc (fun  S85 t9 H1 locs ht9 hvm9 hw9 hB9 hz9 hk9 hS => ?_)
                obtain ⟨hq86, hw9, hs9⟩ := hw9
                have hR : Rep g ad A s S85 H1 locs := hR.call ht9 hB9 hw9 hS hFc
                have hsh := hsh.tr hs9
                replace h := h  S85 hq86
                clear hB9 hz9 hk9 hvm9 ht9 hw9 hs9 hS
                generalize H1 = H at hR ⊢
                obtain ⟨a87, ea87⟩ : ∃ z, z = (v21_4 + Int32.ofInt 1) := ⟨_, rfl⟩
                replace h := h a87 ea87
                refine lv_iinc (v := a87) (lv' := [(4, .int a87), (0, .ref (ad 0)), (1, .int v21_1), (2, .int v21_2), (3, .int v21_3), (5, .int v21_5)]) hx hb dX14_putMethod_128 hl (k := 4) rfl ea87.symm (by decide) rfl (fun ls hl => ?_)
                exact J_131 S85 v21_1 v21_2 v21_3 a87 v21_5 _ _ ls h  hsh hR (lv_sub hl [1, 2, 3, 4, 0, 5] rfl)
        · replace h := h.2 (k_ne rfl (by decide) c52)
          refine lv_goto (tgt := 167) hx hb dX14_putMethod_53 (by decide) ?_
          exact J_167 S48 v21_1 v21_2 v21_3 v21_4 v21_5 _ _ ls h  hsh hR (lv_sub hl [0, 1, 2, 3, 4, 5] rfl)
  obtain ⟨n9, h⟩ := h
  exact J_21 n9 S5 x1 x2 a1 x2 0 _ _ ls h  hsh hR (lv_sub hl [3, 4, 5, 2, 1, 0] rfl)
