def w_enter_L32 (Q : MS → Prop) : Nat → MS → Int32 → Prop
  | 0, _, _ => False
  | n32 + 1, U32, v32_2 => ((24 ≤ v32_2.toInt → (∀ S9, S9 = wI U32 0 97 ((qI U32 0 97) + (1 : Int32)) → Q S9)) ∧ (¬ 24 ≤ v32_2.toInt → (((0 : Int) ≤ (((24 : Int32) * (qI U32 0 97)) + v32_2).toInt ∧ (((24 : Int32) * (qI U32 0 97)) + v32_2).toInt < 1440) ∧ (∀ S13, S13 = wJ U32 45 (((((24 : Int32) * (qI U32 0 97)) + v32_2).toInt).toNat) 0 → (((0 : Int) ≤ (((24 : Int32) * (qI S13 0 97)) + v32_2).toInt ∧ (((24 : Int32) * (qI S13 0 97)) + v32_2).toInt < 1440) ∧ (∀ S17, S17 = wI S13 47 (((((24 : Int32) * (qI S13 0 97)) + v32_2).toInt).toNat) (vp_nar .byte (0 : Int32)) → (∀ a18 : Int32, a18 = (v32_2 + Int32.ofInt 1) → (w_enter_L32 Q n32) S17 a18)))))))
def w_enter (S : MS) (x1 : Int32) (Q : MS → Prop) : Prop := (((0 : Int) ≤ (qI S 0 97).toInt ∧ (qI S 0 97).toInt < 60) ∧ (∀ S2, S2 = wI S 42 (((qI S 0 97).toInt).toNat) x1 → (((0 : Int) ≤ (qI S2 0 97).toInt ∧ (qI S2 0 97).toInt < 60) ∧ (∀ S4, S4 = wI S2 43 (((qI S2 0 97).toInt).toNat) (0 : Int32) → (((0 : Int) ≤ (qI S4 0 97).toInt ∧ (qI S4 0 97).toInt < 60) ∧ (∀ S6, S6 = wI S4 44 (((qI S4 0 97).toInt).toNat) (0 : Int32) → (∃ n, w_enter_L32 Q n S6 0)))))))
set_option maxHeartbeats 2000000 in
set_option maxRecDepth 100000 in
theorem r_enter (l : Launch) (g : Gr) (ad : Nat → Nat) (sz : Nat) (S : MS) (x1 : Int32) (hw : wfM S) (Q : MS → Prop) (h : w_enter S x1 Q) : Met l yX14_enter (wt2 yX14_enter cX14_enter 3 none) ({ frames := 0, cells := 0, slots := 0, locals := 0 }) (va_Pc [.ref (ad 0), .int x1] (st_R g ad sz S)) (va_Qv (fun (u : MS) => Q u ∧ wfM u ∧ shy S u) (fun (u : MS) (t : State) => qE g ad (va_A (Wd g ad S) sz) u t) (va_A (Wd g ad S) sz)) 0 0 (va_A (Wd g ad S) sz) := by
  refine Met.ofW (cc := cX14_enter) (maxL := 3) (ret := none) (by decide) rfl ?_
  intro p e s m args below meth c s₁ B hml hv
  obtain ⟨rfl, hsz, hP, hK, hD0, hex, hE⟩ := hv
  have hx := B.exec
  have hb := B.bytes
  have hr := B.returns
  have hts0 := atoms_spec (ws := wt2 yX14_enter cX14_enter 3 none) B.pre
  have hts : ∀ w ∈ tb2, w.before _ s = true := fun w h => hts0 w (List.mem_cons_of_mem _ h)
  have hown : s.vm.findClass RX14 = some m.cls := findClass_of_methodNamed B.named
  subst hsz
  have hD := hD0.self (sz := s.heap.size)
  generalize hAe : va_A (Wd g ad S) s.heap.size = A at hD hE ⊢
  have hA : ∀ q : Nat, s.heap.size ≤ q → A q := fun q h => by rw [← hAe]; exact Or.inr h
  have hR : Rep g ad A s S s.heap [] := ⟨hK, hP, hD, va_S.rf, hw⟩
  clear hK hP hD hD0
  have hl := lv_entry ([.ref (ad 0), .int x1]) (n := 3) (Nat.le_of_ble_eq_true rfl)
  rw [lg_entry_eq]
  generalize (lg_sl ([.ref (ad 0), .int x1]) ++ List.replicate (3 - (lg_sl ([.ref (ad 0), .int x1])).length) Slot.unset).toArray = ls at hl ⊢
  have hl : lv_has ls 3 [(0, .ref (ad 0)), (1, .int x1)] := hl
  have hsh : shy S S := shy.rf
  unfold w_enter at h
  refine lv_aload_n hx hb dX14_enter_0 rfl (lv_at hl 0 rfl) ?_
  refine va_get (D := rD g) (ci := 13) (v := .ref (ad 42)) (C := RX14) (T := TX14) (N := 143) hx hb hts in2X14 hown hR.K hR.P 0 (hR.at14 hR.w.1) rfl 89 (by decide) (hts _ kx_621) (fun _ h9 => h9) (congrArg (fun z => some (vf ad z)) (hR.w.2.1 _ fin_89).1) dX14_enter_1 ?_
  refine lv_aload_n hx hb dX14_enter_4 rfl (lv_at hl 0 rfl) ?_
  refine va_get (D := rD g) (ci := 13) (v := .int (qI S 0 97)) (C := RX14) (T := TX14) (N := 143) hx hb hts in2X14 hown hR.K hR.P 0 (hR.at14 hR.w.1) rfl 97 (by decide) (hts _ kx_616) (fun _ h9 => h9) rfl dX14_enter_5 ?_
  refine lv_iload_n hx hb dX14_enter_8 rfl (lv_at hl 1 rfl) ?_
  obtain ⟨hv1, h⟩ := h
  refine va_iast hx hb hR.K hR.P hR.D hR.sS 42 1 (hR.atI (hR.w.2.1 _ fin_89).2.1) rfl (k_ixN (k_ix (n := 60) (x := (qI S 0 97)) (a := (qI S 0 97).toInt) rfl hv1) (hR.w.2.1 _ fin_89).2.2) dX14_enter_9 (fun H locs hP hD hS => ?_)
  have hR : Rep g ad A s (wI S 42 (((qI S 0 97).toInt).toNat) x1) H locs := hR.aI (hR.w.2.1 _ fin_89).2.1 hP hD hS
  obtain ⟨S2, eS2⟩ : ∃ z, z = wI S 42 (((qI S 0 97).toInt).toNat) x1 := ⟨_, rfl⟩
  rw [← eS2] at hR
  replace h := h S2 eS2
  have hsh : shy S S2 := by rw [eS2]; exact hsh
  refine lv_aload_n hx hb dX14_enter_10 rfl (lv_at hl 0 rfl) ?_
  refine va_get (D := rD g) (ci := 13) (v := .ref (ad 43)) (C := RX14) (T := TX14) (N := 143) hx hb hts in2X14 hown hR.K hR.P 0 (hR.at14 hR.w.1) rfl 90 (by decide) (hts _ kx_622) (fun _ h9 => h9) (congrArg (fun z => some (vf ad z)) (hR.w.2.1 _ fin_90).1) dX14_enter_11 ?_
  refine lv_aload_n hx hb dX14_enter_14 rfl (lv_at hl 0 rfl) ?_
  refine va_get (D := rD g) (ci := 13) (v := .int (qI S2 0 97)) (C := RX14) (T := TX14) (N := 143) hx hb hts in2X14 hown hR.K hR.P 0 (hR.at14 hR.w.1) rfl 97 (by decide) (hts _ kx_616) (fun _ h9 => h9) rfl dX14_enter_15 ?_
  refine lv_iconst (v := 0) hx hb dX14_enter_18 (by decide) ?_
  obtain ⟨hv3, h⟩ := h
  refine va_iast hx hb hR.K hR.P hR.D hR.sS 43 1 (hR.atI (hR.w.2.1 _ fin_90).2.1) rfl (k_ixN (k_ix (n := 60) (x := (qI S2 0 97)) (a := (qI S2 0 97).toInt) rfl hv3) (hR.w.2.1 _ fin_90).2.2) dX14_enter_19 (fun H locs hP hD hS => ?_)
  have hR : Rep g ad A s (wI S2 43 (((qI S2 0 97).toInt).toNat) (0 : Int32)) H locs := hR.aI (hR.w.2.1 _ fin_90).2.1 hP hD hS
  obtain ⟨S4, eS4⟩ : ∃ z, z = wI S2 43 (((qI S2 0 97).toInt).toNat) (0 : Int32) := ⟨_, rfl⟩
  rw [← eS4] at hR
  replace h := h S4 eS4
  have hsh : shy S S4 := by rw [eS4]; exact hsh
  refine lv_aload_n hx hb dX14_enter_20 rfl (lv_at hl 0 rfl) ?_
  refine va_get (D := rD g) (ci := 13) (v := .ref (ad 44)) (C := RX14) (T := TX14) (N := 143) hx hb hts in2X14 hown hR.K hR.P 0 (hR.at14 hR.w.1) rfl 91 (by decide) (hts _ kx_623) (fun _ h9 => h9) (congrArg (fun z => some (vf ad z)) (hR.w.2.1 _ fin_91).1) dX14_enter_21 ?_
  refine lv_aload_n hx hb dX14_enter_24 rfl (lv_at hl 0 rfl) ?_
  refine va_get (D := rD g) (ci := 13) (v := .int (qI S4 0 97)) (C := RX14) (T := TX14) (N := 143) hx hb hts in2X14 hown hR.K hR.P 0 (hR.at14 hR.w.1) rfl 97 (by decide) (hts _ kx_616) (fun _ h9 => h9) rfl dX14_enter_25 ?_
  refine lv_iconst (v := 0) hx hb dX14_enter_28 (by decide) ?_
  obtain ⟨hv5, h⟩ := h
  refine va_iast hx hb hR.K hR.P hR.D hR.sS 44 1 (hR.atI (hR.w.2.1 _ fin_91).2.1) rfl (k_ixN (k_ix (n := 60) (x := (qI S4 0 97)) (a := (qI S4 0 97).toInt) rfl hv5) (hR.w.2.1 _ fin_91).2.2) dX14_enter_29 (fun H locs hP hD hS => ?_)
  have hR : Rep g ad A s (wI S4 44 (((qI S4 0 97).toInt).toNat) (0 : Int32)) H locs := hR.aI (hR.w.2.1 _ fin_91).2.1 hP hD hS
  obtain ⟨S6, eS6⟩ : ∃ z, z = wI S4 44 (((qI S4 0 97).toInt).toNat) (0 : Int32) := ⟨_, rfl⟩
  rw [← eS6] at hR
  replace h := h S6 eS6
  have hsh : shy S S6 := by rw [eS6]; exact hsh
  refine lv_iconst (v := 0) hx hb dX14_enter_30 (by decide) ?_
  refine lv_istore_n (lv' := [(2, .int 0), (0, .ref (ad 0)), (1, .int x1)]) hx hb dX14_enter_31 rfl hl (by decide) rfl (fun ls hl => ?_)
  have J_32 : ∀ (n32 : Nat) (U32 : MS) (v32_2 : Int32) (H : Heap) (locs : List Loc) (ls : Array Slot), w_enter_L32 Q n32 U32 v32_2 → shy S U32 → Rep g ad A s U32 H locs → lv_has ls 3 [(0, .ref (ad 0)), (2, .int v32_2)] → W p l e (headSpec (wt2 yX14_enter cX14_enter 3 none) ({ frames := 0, cells := 0, slots := 0, locals := 0 })).room s m ([.ref (ad 0), .int x1] : List Value).toArray below meth c H locs 0 0 (MQ below (va_Qv (fun (u : MS) => Q u ∧ wfM u ∧ shy S u) (fun (u : MS) (t : State) => qE g ad A u t) A) ([.ref (ad 0), .int x1] : List Value).toArray s 0 0 A) (F0 m 32 ls []) := by
    intro n32
    induction n32 with
    | zero => intro U32 v32_2 H locs ls h hsh hR hl; unfold w_enter_L32 at h; exact h.elim
    | succ n32 ih_32 =>
      intro U32 v32_2 H locs ls h hsh hR hl
      unfold w_enter_L32 at h
      refine lv_iload_n hx hb dX14_enter_32 rfl (lv_at hl 1 rfl) ?_
      refine lv_bipush (v := 24) hx hb dX14_enter_33 (by decide) ?_
      refine lv_icmp_ge (tgt := 74) hx hb dX14_enter_35 (by decide) (fun c7 => ?_) (fun c7 => ?_)
      · replace h := h.1 (k_le (by decide) rfl c7)
        refine lv_aload_n hx hb dX14_enter_74 rfl (lv_at hl 0 rfl) ?_
        refine lv_dup hx hb dX14_enter_75 rfl ?_
        refine va_get (D := rD g) (ci := 13) (v := .int (qI U32 0 97)) (C := RX14) (T := TX14) (N := 143) hx hb hts in2X14 hown hR.K hR.P 0 (hR.at14 hR.w.1) rfl 97 (by decide) (hts _ kx_616) (fun _ h9 => h9) rfl dX14_enter_76 ?_
        refine lv_iconst (v := 1) hx hb dX14_enter_79 (by decide) ?_
        refine lv_iadd hx hb dX14_enter_80 ?_
        refine lv_topi (fun z8 ez8 => ?_)
        obtain rfl : z8 = ((qI U32 0 97) + (1 : Int32)) := ez8
        refine va_put (D := rD g) (ci := 13) (v := .int ((qI U32 0 97) + (1 : Int32))) (ty := .int) (C := RX14) (T := TX14) (N := 143) hx hb hts in2X14 tyX14 tyX14_ok nmX14 hown hR.K hR.P hR.D hR.sS 0 (hR.at14 hR.w.1) rfl 97 (by decide) (hts _ kx_616) (fun _ h9 => h9) rfl (by decide +kernel) rfl rfl (Nat.le_of_ble_eq_true rfl) dX14_enter_81 (fun H locs hP hD hS => ?_)
        have hR : Rep g ad A s (wI U32 0 97 ((qI U32 0 97) + (1 : Int32))) H locs := hR.pI hR.w.1 F14_s97 hP hD hS
        obtain ⟨S9, eS9⟩ : ∃ z, z = wI U32 0 97 ((qI U32 0 97) + (1 : Int32)) := ⟨_, rfl⟩
        rw [← eS9] at hR
        replace h := h S9 eS9
        have hsh : shy S S9 := by rw [eS9]; exact hsh
        exact W.vret hx hb hr (fun t9 ht9 hW9 => ⟨⟨S9, rfl, ⟨h, hR.w, hsh⟩, ⟨by rw [ht9]; exact hR.P, hR.D⟩⟩, hR.sS.F ht9⟩) hR.sS.2.2 dX14_enter_84
      · replace h := h.2 (k_nle (by decide) rfl c7)
        refine lv_aload_n hx hb dX14_enter_38 rfl (lv_at hl 0 rfl) ?_
        refine va_get (D := rD g) (ci := 13) (v := .ref (ad 45)) (C := RX14) (T := TX14) (N := 143) hx hb hts in2X14 hown hR.K hR.P 0 (hR.at14 hR.w.1) rfl 92 (by decide) (hts _ kx_624) (fun _ h9 => h9) (congrArg (fun z => some (vf ad z)) (hR.w.2.1 _ fin_92).1) dX14_enter_39 ?_
        refine lv_bipush (v := 24) hx hb dX14_enter_42 (by decide) ?_
        refine lv_aload_n hx hb dX14_enter_44 rfl (lv_at hl 0 rfl) ?_
        refine va_get (D := rD g) (ci := 13) (v := .int (qI U32 0 97)) (C := RX14) (T := TX14) (N := 143) hx hb hts in2X14 hown hR.K hR.P 0 (hR.at14 hR.w.1) rfl 97 (by decide) (hts _ kx_616) (fun _ h9 => h9) rfl dX14_enter_45 ?_
        refine lv_imul hx hb dX14_enter_48 ?_
        refine lv_topi (fun z10 ez10 => ?_)
        obtain rfl : z10 = ((24 : Int32) * (qI U32 0 97)) := ez10
        refine lv_iload_n hx hb dX14_enter_49 rfl (lv_at hl 1 rfl) ?_
        refine lv_iadd hx hb dX14_enter_50 ?_
        refine lv_topi (fun z11 ez11 => ?_)
        obtain rfl : z11 = (((24 : Int32) * (qI U32 0 97)) + v32_2) := ez11
        refine lv_lconst (v := 0) hx hb dX14_enter_51 (by decide) ?_
        obtain ⟨hv12, h⟩ := h
        refine va_last hx hb hR.K hR.P hR.D hR.sS 45 3 (hR.atL (hR.w.2.1 _ fin_92).2.1) rfl (k_ixN (k_ix (n := 1440) (x := (((24 : Int32) * (qI U32 0 97)) + v32_2)) (a := (((24 : Int32) * (qI U32 0 97)) + v32_2).toInt) rfl hv12) (hR.w.2.1 _ fin_92).2.2) dX14_enter_52 (fun H locs hP hD hS => ?_)
        have hR : Rep g ad A s (wJ U32 45 (((((24 : Int32) * (qI U32 0 97)) + v32_2).toInt).toNat) 0) H locs := hR.aL (hR.w.2.1 _ fin_92).2.1 hP hD hS
        obtain ⟨S13, eS13⟩ : ∃ z, z = wJ U32 45 (((((24 : Int32) * (qI U32 0 97)) + v32_2).toInt).toNat) 0 := ⟨_, rfl⟩
        rw [← eS13] at hR
        replace h := h S13 eS13
        have hsh : shy S S13 := by rw [eS13]; exact hsh
        refine lv_aload_n hx hb dX14_enter_53 rfl (lv_at hl 0 rfl) ?_
        refine va_get (D := rD g) (ci := 13) (v := .ref (ad 47)) (C := RX14) (T := TX14) (N := 143) hx hb hts in2X14 hown hR.K hR.P 0 (hR.at14 hR.w.1) rfl 94 (by decide) (hts _ kx_625) (fun _ h9 => h9) (congrArg (fun z => some (vf ad z)) (hR.w.2.1 _ fin_94).1) dX14_enter_54 ?_
        refine lv_bipush (v := 24) hx hb dX14_enter_57 (by decide) ?_
        refine lv_aload_n hx hb dX14_enter_59 rfl (lv_at hl 0 rfl) ?_
        refine va_get (D := rD g) (ci := 13) (v := .int (qI S13 0 97)) (C := RX14) (T := TX14) (N := 143) hx hb hts in2X14 hown hR.K hR.P 0 (hR.at14 hR.w.1) rfl 97 (by decide) (hts _ kx_616) (fun _ h9 => h9) rfl dX14_enter_60 ?_
        refine lv_imul hx hb dX14_enter_63 ?_
        refine lv_topi (fun z14 ez14 => ?_)
        obtain rfl : z14 = ((24 : Int32) * (qI S13 0 97)) := ez14
        refine lv_iload_n hx hb dX14_enter_64 rfl (lv_at hl 1 rfl) ?_
        refine lv_iadd hx hb dX14_enter_65 ?_
        refine lv_topi (fun z15 ez15 => ?_)
        obtain rfl : z15 = (((24 : Int32) * (qI S13 0 97)) + v32_2) := ez15
        refine lv_iconst (v := 0) hx hb dX14_enter_66 (by decide) ?_
        obtain ⟨hv16, h⟩ := h
        refine va_bast hx hb hR.K hR.P hR.D hR.sS 47 0 (hR.atB (hR.w.2.1 _ fin_94).2.1) rfl (k_ixN (k_ix (n := 1440) (x := (((24 : Int32) * (qI S13 0 97)) + v32_2)) (a := (((24 : Int32) * (qI S13 0 97)) + v32_2).toInt) rfl hv16) (hR.w.2.1 _ fin_94).2.2) dX14_enter_67 (fun H locs hP hD hS => ?_)
        have hR : Rep g ad A s (wI S13 47 (((((24 : Int32) * (qI S13 0 97)) + v32_2).toInt).toNat) (vp_nar .byte (0 : Int32))) H locs := hR.aB (hR.w.2.1 _ fin_94).2.1 hP hD hS
        obtain ⟨S17, eS17⟩ : ∃ z, z = wI S13 47 (((((24 : Int32) * (qI S13 0 97)) + v32_2).toInt).toNat) (vp_nar .byte (0 : Int32)) := ⟨_, rfl⟩
        rw [← eS17] at hR
        replace h := h S17 eS17
        have hsh : shy S S17 := by rw [eS17]; exact hsh
        obtain ⟨a18, ea18⟩ : ∃ z, z = (v32_2 + Int32.ofInt 1) := ⟨_, rfl⟩
        replace h := h a18 ea18
        refine lv_iinc (v := a18) (lv' := [(2, .int a18), (0, .ref (ad 0))]) hx hb dX14_enter_68 hl (k := 1) rfl ea18.symm (by decide) rfl (fun ls hl => ?_)
        refine lv_goto (tgt := 32) hx hb dX14_enter_71 (by decide) ?_
        exact ih_32 S17 a18 _ _ ls h  hsh hR (lv_sub hl [1, 0] rfl)
  obtain ⟨n9, h⟩ := h
  exact J_32 n9 S6 0 _ _ ls h  hsh hR (lv_sub hl [1, 0] rfl)
def f_thingTag (S : MS) (y0 : Int64) : Int32 := (if (lg_cmp y0 0).toInt = 0 then ((6 : Int32).toInt8.toInt32) else (if (lg_cmp y0 0).toInt ≤ 0 then ((5 : Int32).toInt8.toInt32) else ((4 : Int32).toInt8.toInt32)))
def d_thingTag (S : MS) (y0 : Int64) : Prop := True
set_option maxHeartbeats 2000000 in
set_option maxRecDepth 100000 in
theorem r_thingTag (l : Launch) (g : Gr) (ad : Nat → Nat) (sz : Nat) (S : MS) (y0 : Int64) (hw : wfM S) (hd : d_thingTag S y0) : Met l yX14_thingTag (wt2 yX14_thingTag cX14_thingTag 2 (some .byte)) ({ frames := 0, cells := 0, slots := 0, locals := 0 }) (va_Pc [.long y0] (st_R g ad sz S)) (va_Qi (fun (r : Int32) (_ : Unit) => r = f_thingTag S y0) (fun (_ : Unit) (t : State) => qE g ad (va_A (Wd g ad S) sz) S t) (va_A (Wd g ad S) sz)) 0 0 (va_A (Wd g ad S) sz) := by
  refine Met.ofW (cc := cX14_thingTag) (maxL := 2) (ret := (some .byte)) (by decide) rfl ?_
  intro p e s m args below meth c s₁ B hml hv
  obtain ⟨rfl, hsz, hP, hK, hD0, hex, hE⟩ := hv
  have hx := B.exec
  have hb := B.bytes
  have hr := B.returns
  have hts0 := atoms_spec (ws := wt2 yX14_thingTag cX14_thingTag 2 (some .byte)) B.pre
  have hts : ∀ w ∈ tb2, w.before _ s = true := fun w h => hts0 w (List.mem_cons_of_mem _ h)
  have hown : s.vm.findClass RX14 = some m.cls := findClass_of_methodNamed B.named
  subst hsz
  have hD := hD0.self (sz := s.heap.size)
  generalize hAe : va_A (Wd g ad S) s.heap.size = A at hD hE ⊢
  have hA : ∀ q : Nat, s.heap.size ≤ q → A q := fun q h => by rw [← hAe]; exact Or.inr h
  have hR : Rep g ad A s S s.heap [] := ⟨hK, hP, hD, va_S.rf, hw⟩
  clear hK hP hD hD0
  have hl := lv_entry ([.long y0]) (n := 2) (Nat.le_of_ble_eq_true rfl)
  rw [lg_entry_eq]
  generalize (lg_sl ([.long y0]) ++ List.replicate (2 - (lg_sl ([.long y0])).length) Slot.unset).toArray = ls at hl ⊢
  have hl : lv_has ls 2 [(0, .long y0)] := hl
  obtain ⟨r0, hf⟩ : ∃ r0, f_thingTag S y0 = r0 := ⟨_, rfl⟩
  have hf0 := hf
  unfold f_thingTag at hf
  unfold d_thingTag at hd
  refine lv_lload_n hx hb dX14_thingTag_0 rfl (lv_at hl 0 rfl) ?_
  refine lv_lconst (v := 0) hx hb dX14_thingTag_1 (by decide) ?_
  refine W.lcmp hx hb dX14_thingTag_2 ?_
  refine lv_topi (fun z1 ez1 => ?_)
  obtain rfl : z1 = (lg_cmp y0 0) := ez1
  refine lv_if_ne (tgt := 11) hx hb dX14_thingTag_3 (by decide) (fun c2 => ?_) (fun c2 => ?_)
  · rw [if_neg (k_ne rfl (by decide) c2)] at hf
    (try rw [if_neg (k_ne rfl (by decide) c2)] at hd)
    refine lv_lload_n hx hb dX14_thingTag_11 rfl (lv_at hl 0 rfl) ?_
    refine lv_lconst (v := 0) hx hb dX14_thingTag_12 (by decide) ?_
    refine W.lcmp hx hb dX14_thingTag_13 ?_
    refine lv_topi (fun z3 ez3 => ?_)
    obtain rfl : z3 = (lg_cmp y0 0) := ez3
    refine lv_if_le (tgt := 21) hx hb dX14_thingTag_14 (by decide) (fun c4 => ?_) (fun c4 => ?_)
    · rw [if_pos (k_le rfl (by decide) c4)] at hf
      (try rw [if_pos (k_le rfl (by decide) c4)] at hd)
      refine lv_iconst (v := 5) hx hb dX14_thingTag_21 (by decide) ?_
      refine lv_i2b (v := ((5 : Int32).toInt8.toInt32)) hx hb dX14_thingTag_22 rfl ?_
      exact W.zret (v := ((5 : Int32).toInt8.toInt32)) hx hb hr nb8 (fun t9 ht9 hW9 => ⟨⟨_, (), rfl, hf.trans hf0.symm, ⟨by rw [ht9]; exact hR.P, hR.D⟩⟩, hR.sS.F ht9⟩) hR.sS.2.2 dX14_thingTag_23
    · rw [if_neg (k_nle rfl (by decide) c4)] at hf
      (try rw [if_neg (k_nle rfl (by decide) c4)] at hd)
      refine lv_iconst (v := 4) hx hb dX14_thingTag_17 (by decide) ?_
      refine lv_goto (tgt := 22) hx hb dX14_thingTag_18 (by decide) ?_
      refine lv_i2b (v := ((4 : Int32).toInt8.toInt32)) hx hb dX14_thingTag_22 rfl ?_
      exact W.zret (v := ((4 : Int32).toInt8.toInt32)) hx hb hr nb8 (fun t9 ht9 hW9 => ⟨⟨_, (), rfl, hf.trans hf0.symm, ⟨by rw [ht9]; exact hR.P, hR.D⟩⟩, hR.sS.F ht9⟩) hR.sS.2.2 dX14_thingTag_23
  · rw [if_pos (k_eq rfl (by decide) c2)] at hf
    (try rw [if_pos (k_eq rfl (by decide) c2)] at hd)
    refine lv_bipush (v := 6) hx hb dX14_thingTag_6 (by decide) ?_
    refine lv_goto (tgt := 22) hx hb dX14_thingTag_8 (by decide) ?_
    refine lv_i2b (v := ((6 : Int32).toInt8.toInt32)) hx hb dX14_thingTag_22 rfl ?_
    exact W.zret (v := ((6 : Int32).toInt8.toInt32)) hx hb hr nb8 (fun t9 ht9 hW9 => ⟨⟨_, (), rfl, hf.trans hf0.symm, ⟨by rw [ht9]; exact hR.P, hR.D⟩⟩, hR.sS.F ht9⟩) hR.sS.2.2 dX14_thingTag_23
def w_putTagged_J55 (Q : MS → Prop) (U55 : MS) (v55_4 : Int32) : Prop := (((0 : Int) ≤ ((qI U55 0 97) - (1 : Int32)).toInt ∧ ((qI U55 0 97) - (1 : Int32)).toInt < 60) ∧ (((0 : Int) ≤ ((qI U55 0 97) - (1 : Int32)).toInt ∧ ((qI U55 0 97) - (1 : Int32)).toInt < 60) ∧ (∀ S17, S17 = wI U55 44 ((((qI U55 0 97) - (1 : Int32)).toInt).toNat) ((qI U55 44 ((((qI U55 0 97) - (1 : Int32)).toInt).toNat)) + v55_4) → Q S17)))
def w_putTagged (S : MS) (y1 : Int64) (x3 : Int32) (x4 : Int32) (Q : MS → Prop) : Prop := (((0 : Int) ≤ ((qI S 0 97) - (1 : Int32)).toInt ∧ ((qI S 0 97) - (1 : Int32)).toInt < 60) ∧ (∀ a7 : Int32, a7 = (((24 : Int32) * ((qI S 0 97) - (1 : Int32))) + (qI S 44 ((((qI S 0 97) - (1 : Int32)).toInt).toNat))) → (((0 : Int) ≤ a7.toInt ∧ a7.toInt < 1440) ∧ (∀ S9, S9 = wJ S 46 a7.toInt.toNat y1 → (((0 : Int) ≤ a7.toInt ∧ a7.toInt < 1440) ∧ (∀ S11, S11 = wI S9 48 a7.toInt.toNat (vp_nar .byte x3) → ((x4.toInt = 2 → (((0 : Int) ≤ (a7 + (1 : Int32)).toInt ∧ (a7 + (1 : Int32)).toInt < 1440) ∧ (∀ S21, S21 = wI S11 48 (((a7 + (1 : Int32)).toInt).toNat) (vp_nar .byte (3 : Int32)) → w_putTagged_J55 Q S21 x4))) ∧ (¬ x4.toInt = 2 → w_putTagged_J55 Q S11 x4))))))))
set_option maxHeartbeats 2000000 in
set_option maxRecDepth 100000 in
theorem r_putTagged (l : Launch) (g : Gr) (ad : Nat → Nat) (sz : Nat) (S : MS) (y1 : Int64) (x3 : Int32) (x4 : Int32) (hw : wfM S) (Q : MS → Prop) (h : w_putTagged S y1 x3 x4 Q) : Met l yX14_putTagged (wt2 yX14_putTagged cX14_putTagged 6 none) ({ frames := 0, cells := 0, slots := 0, locals := 0 }) (va_Pc [.ref (ad 0), .long y1, .int x3, .int x4] (st_R g ad sz S)) (va_Qv (fun (u : MS) => Q u ∧ wfM u ∧ shy S u) (fun (u : MS) (t : State) => qE g ad (va_A (Wd g ad S) sz) u t) (va_A (Wd g ad S) sz)) 0 0 (va_A (Wd g ad S) sz) := by
  refine Met.ofW (cc := cX14_putTagged) (maxL := 6) (ret := none) (by decide) rfl ?_
  intro p e s m args below meth c s₁ B hml hv
  obtain ⟨rfl, hsz, hP, hK, hD0, hex, hE⟩ := hv
  have hx := B.exec
  have hb := B.bytes
  have hr := B.returns
  have hts0 := atoms_spec (ws := wt2 yX14_putTagged cX14_putTagged 6 none) B.pre
  have hts : ∀ w ∈ tb2, w.before _ s = true := fun w h => hts0 w (List.mem_cons_of_mem _ h)
  have hown : s.vm.findClass RX14 = some m.cls := findClass_of_methodNamed B.named
  subst hsz
  have hD := hD0.self (sz := s.heap.size)
  generalize hAe : va_A (Wd g ad S) s.heap.size = A at hD hE ⊢
  have hA : ∀ q : Nat, s.heap.size ≤ q → A q := fun q h => by rw [← hAe]; exact Or.inr h
  have hR : Rep g ad A s S s.heap [] := ⟨hK, hP, hD, va_S.rf, hw⟩
  clear hK hP hD hD0
  have hl := lv_entry ([.ref (ad 0), .long y1, .int x3, .int x4]) (n := 6) (Nat.le_of_ble_eq_true rfl)
  rw [lg_entry_eq]
  generalize (lg_sl ([.ref (ad 0), .long y1, .int x3, .int x4]) ++ List.replicate (6 - (lg_sl ([.ref (ad 0), .long y1, .int x3, .int x4])).length) Slot.unset).toArray = ls at hl ⊢
  have hl : lv_has ls 6 [(0, .ref (ad 0)), (1, .long y1), (3, .int x3), (4, .int x4)] := hl
  have hsh : shy S S := shy.rf
  unfold w_putTagged at h
  refine lv_bipush (v := 24) hx hb dX14_putTagged_0 (by decide) ?_
  refine lv_aload_n hx hb dX14_putTagged_2 rfl (lv_at hl 0 rfl) ?_
  refine va_get (D := rD g) (ci := 13) (v := .int (qI S 0 97)) (C := RX14) (T := TX14) (N := 143) hx hb hts in2X14 hown hR.K hR.P 0 (hR.at14 hR.w.1) rfl 97 (by decide) (hts _ kx_616) (fun _ h9 => h9) rfl dX14_putTagged_3 ?_
  refine lv_iconst (v := 1) hx hb dX14_putTagged_6 (by decide) ?_
  refine lv_isub hx hb dX14_putTagged_7 ?_
  refine lv_topi (fun z1 ez1 => ?_)
  obtain rfl : z1 = ((qI S 0 97) - (1 : Int32)) := ez1
  refine lv_imul hx hb dX14_putTagged_8 ?_
  refine lv_topi (fun z2 ez2 => ?_)
  obtain rfl : z2 = ((24 : Int32) * ((qI S 0 97) - (1 : Int32))) := ez2
  refine lv_aload_n hx hb dX14_putTagged_9 rfl (lv_at hl 0 rfl) ?_
  refine va_get (D := rD g) (ci := 13) (v := .ref (ad 44)) (C := RX14) (T := TX14) (N := 143) hx hb hts in2X14 hown hR.K hR.P 0 (hR.at14 hR.w.1) rfl 91 (by decide) (hts _ kx_623) (fun _ h9 => h9) (congrArg (fun z => some (vf ad z)) (hR.w.2.1 _ fin_91).1) dX14_putTagged_10 ?_
  refine lv_aload_n hx hb dX14_putTagged_13 rfl (lv_at hl 0 rfl) ?_
  refine va_get (D := rD g) (ci := 13) (v := .int (qI S 0 97)) (C := RX14) (T := TX14) (N := 143) hx hb hts in2X14 hown hR.K hR.P 0 (hR.at14 hR.w.1) rfl 97 (by decide) (hts _ kx_616) (fun _ h9 => h9) rfl dX14_putTagged_14 ?_
  refine lv_iconst (v := 1) hx hb dX14_putTagged_17 (by decide) ?_
  refine lv_isub hx hb dX14_putTagged_18 ?_
  refine lv_topi (fun z3 ez3 => ?_)
  obtain rfl : z3 = ((qI S 0 97) - (1 : Int32)) := ez3
  obtain ⟨hv4, h⟩ := h
  refine va_iald hx hb hR.K hR.P 44 1 (hR.atI (hR.w.2.1 _ fin_91).2.1) rfl (k_ixN (k_ix (n := 60) (x := ((qI S 0 97) - (1 : Int32))) (a := ((qI S 0 97) - (1 : Int32)).toInt) rfl hv4) (hR.w.2.1 _ fin_91).2.2) dX14_putTagged_19 ?_
  refine lv_topi (fun z5 ez5 => ?_)
  obtain rfl : z5 = (qI S 44 ((((qI S 0 97) - (1 : Int32)).toInt).toNat)) := ez5
  refine lv_iadd hx hb dX14_putTagged_20 ?_
  refine lv_topi (fun z6 ez6 => ?_)
  obtain rfl : z6 = (((24 : Int32) * ((qI S 0 97) - (1 : Int32))) + (qI S 44 ((((qI S 0 97) - (1 : Int32)).toInt).toNat))) := ez6
  obtain ⟨a7, ea7⟩ : ∃ z, z = (((24 : Int32) * ((qI S 0 97) - (1 : Int32))) + (qI S 44 ((((qI S 0 97) - (1 : Int32)).toInt).toNat))) := ⟨_, rfl⟩
  rw [← ea7]
  replace h := h a7 ea7
  refine lv_istore (lv' := [(5, .int a7), (0, .ref (ad 0)), (1, .long y1), (3, .int x3), (4, .int x4)]) hx hb dX14_putTagged_21 hl (by decide) rfl (fun ls hl => ?_)
  refine lv_aload_n hx hb dX14_putTagged_23 rfl (lv_at hl 1 rfl) ?_
  refine va_get (D := rD g) (ci := 13) (v := .ref (ad 46)) (C := RX14) (T := TX14) (N := 143) hx hb hts in2X14 hown hR.K hR.P 0 (hR.at14 hR.w.1) rfl 93 (by decide) (hts _ kx_629) (fun _ h9 => h9) (congrArg (fun z => some (vf ad z)) (hR.w.2.1 _ fin_93).1) dX14_putTagged_24 ?_
  refine lv_iload hx hb dX14_putTagged_27 (lv_at hl 0 rfl) ?_
  refine lv_lload_n hx hb dX14_putTagged_29 rfl (lv_at hl 2 rfl) ?_
  obtain ⟨hv8, h⟩ := h
  refine va_last hx hb hR.K hR.P hR.D hR.sS 46 3 (hR.atL (hR.w.2.1 _ fin_93).2.1) rfl (k_ixN (k_ix (n := 1440) (x := a7) (a := a7.toInt) rfl hv8) (hR.w.2.1 _ fin_93).2.2) dX14_putTagged_30 (fun H locs hP hD hS => ?_)
  have hR : Rep g ad A s (wJ S 46 a7.toInt.toNat y1) H locs := hR.aL (hR.w.2.1 _ fin_93).2.1 hP hD hS
  obtain ⟨S9, eS9⟩ : ∃ z, z = wJ S 46 a7.toInt.toNat y1 := ⟨_, rfl⟩
  rw [← eS9] at hR
  replace h := h S9 eS9
  have hsh : shy S S9 := by rw [eS9]; exact hsh
  refine lv_aload_n hx hb dX14_putTagged_31 rfl (lv_at hl 1 rfl) ?_
  refine va_get (D := rD g) (ci := 13) (v := .ref (ad 48)) (C := RX14) (T := TX14) (N := 143) hx hb hts in2X14 hown hR.K hR.P 0 (hR.at14 hR.w.1) rfl 95 (by decide) (hts _ kx_630) (fun _ h9 => h9) (congrArg (fun z => some (vf ad z)) (hR.w.2.1 _ fin_95).1) dX14_putTagged_32 ?_
  refine lv_iload hx hb dX14_putTagged_35 (lv_at hl 0 rfl) ?_
  refine lv_iload_n hx hb dX14_putTagged_37 rfl (lv_at hl 3 rfl) ?_
  obtain ⟨hv10, h⟩ := h
  refine va_bast hx hb hR.K hR.P hR.D hR.sS 48 0 (hR.atB (hR.w.2.1 _ fin_95).2.1) rfl (k_ixN (k_ix (n := 1440) (x := a7) (a := a7.toInt) rfl hv10) (hR.w.2.1 _ fin_95).2.2) dX14_putTagged_38 (fun H locs hP hD hS => ?_)
  have hR : Rep g ad A s (wI S9 48 a7.toInt.toNat (vp_nar .byte x3)) H locs := hR.aB (hR.w.2.1 _ fin_95).2.1 hP hD hS
  obtain ⟨S11, eS11⟩ : ∃ z, z = wI S9 48 a7.toInt.toNat (vp_nar .byte x3) := ⟨_, rfl⟩
  rw [← eS11] at hR
  replace h := h S11 eS11
  have hsh : shy S S11 := by rw [eS11]; exact hsh
  refine lv_iload hx hb dX14_putTagged_39 (lv_at hl 4 rfl) ?_
  refine lv_iconst (v := 2) hx hb dX14_putTagged_41 (by decide) ?_
  have J_55 : ∀ (U55 : MS) (v55_4 : Int32) (H : Heap) (locs : List Loc) (ls : Array Slot), w_putTagged_J55 Q U55 v55_4 → shy S U55 → Rep g ad A s U55 H locs → lv_has ls 6 [(0, .ref (ad 0)), (4, .int v55_4)] → W p l e (headSpec (wt2 yX14_putTagged cX14_putTagged 6 none) ({ frames := 0, cells := 0, slots := 0, locals := 0 })).room s m ([.ref (ad 0), .long y1, .int x3, .int x4] : List Value).toArray below meth c H locs 0 0 (MQ below (va_Qv (fun (u : MS) => Q u ∧ wfM u ∧ shy S u) (fun (u : MS) (t : State) => qE g ad A u t) A) ([.ref (ad 0), .long y1, .int x3, .int x4] : List Value).toArray s 0 0 A) (F0 m 55 ls []) := by
    intro U55 v55_4 H locs ls h hsh hR hl
    unfold w_putTagged_J55 at h
    refine lv_aload_n hx hb dX14_putTagged_55 rfl (lv_at hl 0 rfl) ?_
    refine va_get (D := rD g) (ci := 13) (v := .ref (ad 44)) (C := RX14) (T := TX14) (N := 143) hx hb hts in2X14 hown hR.K hR.P 0 (hR.at14 hR.w.1) rfl 91 (by decide) (hts _ kx_623) (fun _ h9 => h9) (congrArg (fun z => some (vf ad z)) (hR.w.2.1 _ fin_91).1) dX14_putTagged_56 ?_
    refine lv_aload_n hx hb dX14_putTagged_59 rfl (lv_at hl 0 rfl) ?_
    refine va_get (D := rD g) (ci := 13) (v := .int (qI U55 0 97)) (C := RX14) (T := TX14) (N := 143) hx hb hts in2X14 hown hR.K hR.P 0 (hR.at14 hR.w.1) rfl 97 (by decide) (hts _ kx_616) (fun _ h9 => h9) rfl dX14_putTagged_60 ?_
    refine lv_iconst (v := 1) hx hb dX14_putTagged_63 (by decide) ?_
    refine lv_isub hx hb dX14_putTagged_64 ?_
    refine lv_topi (fun z12 ez12 => ?_)
    obtain rfl : z12 = ((qI U55 0 97) - (1 : Int32)) := ez12
    refine lv_dup2_11 hx hb dX14_putTagged_65 rfl rfl ?_
    obtain ⟨hv13, h⟩ := h
    refine va_iald hx hb hR.K hR.P 44 1 (hR.atI (hR.w.2.1 _ fin_91).2.1) rfl (k_ixN (k_ix (n := 60) (x := ((qI U55 0 97) - (1 : Int32))) (a := ((qI U55 0 97) - (1 : Int32)).toInt) rfl hv13) (hR.w.2.1 _ fin_91).2.2) dX14_putTagged_66 ?_
    refine lv_topi (fun z14 ez14 => ?_)
    obtain rfl : z14 = (qI U55 44 ((((qI U55 0 97) - (1 : Int32)).toInt).toNat)) := ez14
    refine lv_iload hx hb dX14_putTagged_67 (lv_at hl 1 rfl) ?_
    refine lv_iadd hx hb dX14_putTagged_69 ?_
    refine lv_topi (fun z15 ez15 => ?_)
    obtain rfl : z15 = ((qI U55 44 ((((qI U55 0 97) - (1 : Int32)).toInt).toNat)) + v55_4) := ez15
    obtain ⟨hv16, h⟩ := h
    refine va_iast hx hb hR.K hR.P hR.D hR.sS 44 1 (hR.atI (hR.w.2.1 _ fin_91).2.1) rfl (k_ixN (k_ix (n := 60) (x := ((qI U55 0 97) - (1 : Int32))) (a := ((qI U55 0 97) - (1 : Int32)).toInt) rfl hv16) (hR.w.2.1 _ fin_91).2.2) dX14_putTagged_70 (fun H locs hP hD hS => ?_)
    have hR : Rep g ad A s (wI U55 44 ((((qI U55 0 97) - (1 : Int32)).toInt).toNat) ((qI U55 44 ((((qI U55 0 97) - (1 : Int32)).toInt).toNat)) + v55_4)) H locs := hR.aI (hR.w.2.1 _ fin_91).2.1 hP hD hS
    obtain ⟨S17, eS17⟩ : ∃ z, z = wI U55 44 ((((qI U55 0 97) - (1 : Int32)).toInt).toNat) ((qI U55 44 ((((qI U55 0 97) - (1 : Int32)).toInt).toNat)) + v55_4) := ⟨_, rfl⟩
    rw [← eS17] at hR
    replace h := h S17 eS17
    have hsh : shy S S17 := by rw [eS17]; exact hsh
    exact W.vret hx hb hr (fun t9 ht9 hW9 => ⟨⟨S17, rfl, ⟨h, hR.w, hsh⟩, ⟨by rw [ht9]; exact hR.P, hR.D⟩⟩, hR.sS.F ht9⟩) hR.sS.2.2 dX14_putTagged_71
  refine lv_icmp_ne (tgt := 55) hx hb dX14_putTagged_42 (by decide) (fun c18 => ?_) (fun c18 => ?_)
  · replace h := h.2 (k_ne rfl (by decide) c18)
    exact J_55 S11 x4 _ _ ls h  hsh hR (lv_sub hl [1, 4] rfl)
  · replace h := h.1 (k_eq rfl (by decide) c18)
    refine lv_aload_n hx hb dX14_putTagged_45 rfl (lv_at hl 1 rfl) ?_
    refine va_get (D := rD g) (ci := 13) (v := .ref (ad 48)) (C := RX14) (T := TX14) (N := 143) hx hb hts in2X14 hown hR.K hR.P 0 (hR.at14 hR.w.1) rfl 95 (by decide) (hts _ kx_630) (fun _ h9 => h9) (congrArg (fun z => some (vf ad z)) (hR.w.2.1 _ fin_95).1) dX14_putTagged_46 ?_
    refine lv_iload hx hb dX14_putTagged_49 (lv_at hl 0 rfl) ?_
    refine lv_iconst (v := 1) hx hb dX14_putTagged_51 (by decide) ?_
    refine lv_iadd hx hb dX14_putTagged_52 ?_
    refine lv_topi (fun z19 ez19 => ?_)
    obtain rfl : z19 = (a7 + (1 : Int32)) := ez19
    refine lv_iconst (v := 3) hx hb dX14_putTagged_53 (by decide) ?_
    obtain ⟨hv20, h⟩ := h
    refine va_bast hx hb hR.K hR.P hR.D hR.sS 48 0 (hR.atB (hR.w.2.1 _ fin_95).2.1) rfl (k_ixN (k_ix (n := 1440) (x := (a7 + (1 : Int32))) (a := (a7 + (1 : Int32)).toInt) rfl hv20) (hR.w.2.1 _ fin_95).2.2) dX14_putTagged_54 (fun H locs hP hD hS => ?_)
    have hR : Rep g ad A s (wI S11 48 (((a7 + (1 : Int32)).toInt).toNat) (vp_nar .byte (3 : Int32))) H locs := hR.aB (hR.w.2.1 _ fin_95).2.1 hP hD hS
    obtain ⟨S21, eS21⟩ : ∃ z, z = wI S11 48 (((a7 + (1 : Int32)).toInt).toNat) (vp_nar .byte (3 : Int32)) := ⟨_, rfl⟩
    rw [← eS21] at hR
    replace h := h S21 eS21
    have hsh : shy S S21 := by rw [eS21]; exact hsh
    exact J_55 S21 x4 _ _ ls h  hsh hR (lv_sub hl [1, 4] rfl)
def w_putInt (S : MS) (x1 : Int32) (Q : MS → Prop) : Prop := (∃ Q1, w_putTagged S (x1.toInt64) (1 : Int32) (1 : Int32) Q1 ∧ ∀ S2, Q1 S2 → Q S2)
set_option maxHeartbeats 2000000 in
set_option maxRecDepth 100000 in
theorem r_putInt (l : Launch) (g : Gr) (ad : Nat → Nat) (sz : Nat) (S : MS) (x1 : Int32) (hw : wfM S) (Q : MS → Prop) (h : w_putInt S x1 Q) : Met l yX14_putInt (wt2 yX14_putInt cX14_putInt 2 none) ({ frames := 1, cells := 0, slots := 0, locals := 25 }) (va_Pc [.ref (ad 0), .int x1] (st_R g ad sz S)) (va_Qv (fun (u : MS) => Q u ∧ wfM u ∧ shy S u) (fun (u : MS) (t : State) => qE g ad (va_A (Wd g ad S) sz) u t) (va_A (Wd g ad S) sz)) 0 0 (va_A (Wd g ad S) sz) := by
  refine Met.ofW (cc := cX14_putInt) (maxL := 2) (ret := none) (by decide) rfl ?_
  intro p e s m args below meth c s₁ B hml hv
  obtain ⟨rfl, hsz, hP, hK, hD0, hex, hE⟩ := hv
  have hx := B.exec
  have hb := B.bytes
  have hr := B.returns
  have hts0 := atoms_spec (ws := wt2 yX14_putInt cX14_putInt 2 none) B.pre
  have hts : ∀ w ∈ tb2, w.before _ s = true := fun w h => hts0 w (List.mem_cons_of_mem _ h)
  have hown : s.vm.findClass RX14 = some m.cls := findClass_of_methodNamed B.named
  subst hsz
  have hD := hD0.self (sz := s.heap.size)
  generalize hAe : va_A (Wd g ad S) s.heap.size = A at hD hE ⊢
  have hA : ∀ q : Nat, s.heap.size ≤ q → A q := fun q h => by rw [← hAe]; exact Or.inr h
  have hR : Rep g ad A s S s.heap [] := ⟨hK, hP, hD, va_S.rf, hw⟩
  clear hK hP hD hD0
  have hl := lv_entry ([.ref (ad 0), .int x1]) (n := 2) (Nat.le_of_ble_eq_true rfl)
  rw [lg_entry_eq]
  generalize (lg_sl ([.ref (ad 0), .int x1]) ++ List.replicate (2 - (lg_sl ([.ref (ad 0), .int x1])).length) Slot.unset).toArray = ls at hl ⊢
  have hl : lv_has ls 2 [(0, .ref (ad 0)), (1, .int x1)] := hl
  have hsh : shy S S := shy.rf
  unfold w_putInt at h
  refine lv_aload_n hx hb dX14_putInt_0 rfl (lv_at hl 0 rfl) ?_
  refine lv_iload_n hx hb dX14_putInt_1 rfl (lv_at hl 1 rfl) ?_
  refine lv_i2l (v := (x1.toInt64)) hx hb dX14_putInt_2 rfl ?_
  refine lv_iconst (v := 1) hx hb dX14_putInt_3 (by decide) ?_
  refine lv_iconst (v := 1) hx hb dX14_putInt_4 (by decide) ?_
  obtain ⟨Q1, h0, h⟩ := h
  have hFc := rfree hR hA
  refine va_callv (va_runV (As := [.long (x1.toInt64), .int 1, .int 1]) (rest := []) ⟨hx, hb, hml, hown, hts⟩ (r_putTagged l g ad s.heap.size S (x1.toInt64) (1 : Int32) (1 : Int32) hR.w  Q1 h0) (cwV 3 hts (gd2_V kx_631 kx_632 kx_633 kx_177 kx_634) rfl rfl rfl (by decide +kernel) ⟨Nat.le_of_ble_eq_true rfl, Nat.le_of_ble_eq_true rfl⟩) ⟨rblind, va_recv hR.K hR.P (ci := 13) (q0 := 0) rfl (hR.at14 hR.w.1), fun U hU hW9 => rmk hU hW9 hR hex hE hFc⟩ rfl rfl hl.1 rfl (lv_room (Nat.le_of_ble_eq_true rfl)) dX14_putInt_5 ⟨Nat.le_of_ble_eq_true rfl, Nat.le_of_ble_eq_true rfl⟩) hR.sS (fun q _ h => hFc q h) hFc (fun  S2 t9 H1 locs ht9 hvm9 hw9 hB9 hz9 hk9 hS => ?_)
  obtain ⟨hq3, hw9, hs9⟩ := hw9
  have hR : Rep g ad A s S2 H1 locs := hR.call ht9 hB9 hw9 hS hFc
  have hsh := hsh.tr hs9
  replace h := h  S2 hq3
  clear hB9 hz9 hk9 hvm9 ht9 hw9 hs9 hS
  generalize H1 = H at hR ⊢
  exact W.vret hx hb hr (fun t9 ht9 hW9 => ⟨⟨S2, rfl, ⟨h, hR.w, hsh⟩, ⟨by rw [ht9]; exact hR.P, hR.D⟩⟩, hR.sS.F ht9⟩) hR.sS.2.2 dX14_putInt_8
def f_tagAt (S : MS) (x1 : Int32) : Int32 := (qI S 48 ((((((24 : Int32) * ((qI S 0 97) - (1 : Int32))) + (qI S 44 ((((qI S 0 97) - (1 : Int32)).toInt).toNat))) - x1).toInt).toNat))
def d_tagAt (S : MS) (x1 : Int32) : Prop := (((0 : Int) ≤ ((qI S 0 97) - (1 : Int32)).toInt ∧ ((qI S 0 97) - (1 : Int32)).toInt < 60) ∧ (((0 : Int) ≤ ((((24 : Int32) * ((qI S 0 97) - (1 : Int32))) + (qI S 44 ((((qI S 0 97) - (1 : Int32)).toInt).toNat))) - x1).toInt ∧ ((((24 : Int32) * ((qI S 0 97) - (1 : Int32))) + (qI S 44 ((((qI S 0 97) - (1 : Int32)).toInt).toNat))) - x1).toInt < 1440) ∧ True))
set_option maxHeartbeats 2000000 in
set_option maxRecDepth 100000 in
theorem r_tagAt (l : Launch) (g : Gr) (ad : Nat → Nat) (sz : Nat) (S : MS) (x1 : Int32) (hw : wfM S) (hd : d_tagAt S x1) : Met l yX14_tagAt (wt2 yX14_tagAt cX14_tagAt 2 (some .int)) ({ frames := 0, cells := 0, slots := 0, locals := 0 }) (va_Pc [.ref (ad 0), .int x1] (st_R g ad sz S)) (va_Qi (fun (r : Int32) (_ : Unit) => r = f_tagAt S x1) (fun (_ : Unit) (t : State) => qE g ad (va_A (Wd g ad S) sz) S t) (va_A (Wd g ad S) sz)) 0 0 (va_A (Wd g ad S) sz) := by
  refine Met.ofW (cc := cX14_tagAt) (maxL := 2) (ret := (some .int)) (by decide) rfl ?_
  intro p e s m args below meth c s₁ B hml hv
  obtain ⟨rfl, hsz, hP, hK, hD0, hex, hE⟩ := hv
  have hx := B.exec
  have hb := B.bytes
  have hr := B.returns
  have hts0 := atoms_spec (ws := wt2 yX14_tagAt cX14_tagAt 2 (some .int)) B.pre
  have hts : ∀ w ∈ tb2, w.before _ s = true := fun w h => hts0 w (List.mem_cons_of_mem _ h)
  have hown : s.vm.findClass RX14 = some m.cls := findClass_of_methodNamed B.named
  subst hsz
  have hD := hD0.self (sz := s.heap.size)
  generalize hAe : va_A (Wd g ad S) s.heap.size = A at hD hE ⊢
  have hA : ∀ q : Nat, s.heap.size ≤ q → A q := fun q h => by rw [← hAe]; exact Or.inr h
  have hR : Rep g ad A s S s.heap [] := ⟨hK, hP, hD, va_S.rf, hw⟩
  clear hK hP hD hD0
  have hl := lv_entry ([.ref (ad 0), .int x1]) (n := 2) (Nat.le_of_ble_eq_true rfl)
  rw [lg_entry_eq]
  generalize (lg_sl ([.ref (ad 0), .int x1]) ++ List.replicate (2 - (lg_sl ([.ref (ad 0), .int x1])).length) Slot.unset).toArray = ls at hl ⊢
  have hl : lv_has ls 2 [(0, .ref (ad 0)), (1, .int x1)] := hl
  obtain ⟨r0, hf⟩ : ∃ r0, f_tagAt S x1 = r0 := ⟨_, rfl⟩
  have hf0 := hf
  unfold f_tagAt at hf
  unfold d_tagAt at hd
  refine lv_aload_n hx hb dX14_tagAt_0 rfl (lv_at hl 0 rfl) ?_
  refine va_get (D := rD g) (ci := 13) (v := .ref (ad 48)) (C := RX14) (T := TX14) (N := 143) hx hb hts in2X14 hown hR.K hR.P 0 (hR.at14 hR.w.1) rfl 95 (by decide) (hts _ kx_630) (fun _ h9 => h9) (congrArg (fun z => some (vf ad z)) (hR.w.2.1 _ fin_95).1) dX14_tagAt_1 ?_
  refine lv_bipush (v := 24) hx hb dX14_tagAt_4 (by decide) ?_
  refine lv_aload_n hx hb dX14_tagAt_6 rfl (lv_at hl 0 rfl) ?_
  refine va_get (D := rD g) (ci := 13) (v := .int (qI S 0 97)) (C := RX14) (T := TX14) (N := 143) hx hb hts in2X14 hown hR.K hR.P 0 (hR.at14 hR.w.1) rfl 97 (by decide) (hts _ kx_616) (fun _ h9 => h9) rfl dX14_tagAt_7 ?_
  refine lv_iconst (v := 1) hx hb dX14_tagAt_10 (by decide) ?_
  refine lv_isub hx hb dX14_tagAt_11 ?_
  refine lv_topi (fun z1 ez1 => ?_)
  obtain rfl : z1 = ((qI S 0 97) - (1 : Int32)) := ez1
  refine lv_imul hx hb dX14_tagAt_12 ?_
  refine lv_topi (fun z2 ez2 => ?_)
  obtain rfl : z2 = ((24 : Int32) * ((qI S 0 97) - (1 : Int32))) := ez2
  refine lv_aload_n hx hb dX14_tagAt_13 rfl (lv_at hl 0 rfl) ?_
  refine va_get (D := rD g) (ci := 13) (v := .ref (ad 44)) (C := RX14) (T := TX14) (N := 143) hx hb hts in2X14 hown hR.K hR.P 0 (hR.at14 hR.w.1) rfl 91 (by decide) (hts _ kx_623) (fun _ h9 => h9) (congrArg (fun z => some (vf ad z)) (hR.w.2.1 _ fin_91).1) dX14_tagAt_14 ?_
  refine lv_aload_n hx hb dX14_tagAt_17 rfl (lv_at hl 0 rfl) ?_
  refine va_get (D := rD g) (ci := 13) (v := .int (qI S 0 97)) (C := RX14) (T := TX14) (N := 143) hx hb hts in2X14 hown hR.K hR.P 0 (hR.at14 hR.w.1) rfl 97 (by decide) (hts _ kx_616) (fun _ h9 => h9) rfl dX14_tagAt_18 ?_
  refine lv_iconst (v := 1) hx hb dX14_tagAt_21 (by decide) ?_
  refine lv_isub hx hb dX14_tagAt_22 ?_
  refine lv_topi (fun z3 ez3 => ?_)
  obtain rfl : z3 = ((qI S 0 97) - (1 : Int32)) := ez3
  obtain ⟨hv4, hd⟩ := hd
  refine va_iald hx hb hR.K hR.P 44 1 (hR.atI (hR.w.2.1 _ fin_91).2.1) rfl (k_ixN (k_ix (n := 60) (x := ((qI S 0 97) - (1 : Int32))) (a := ((qI S 0 97) - (1 : Int32)).toInt) rfl hv4) (hR.w.2.1 _ fin_91).2.2) dX14_tagAt_23 ?_
  refine lv_topi (fun z5 ez5 => ?_)
  obtain rfl : z5 = (qI S 44 ((((qI S 0 97) - (1 : Int32)).toInt).toNat)) := ez5
  refine lv_iadd hx hb dX14_tagAt_24 ?_
  refine lv_topi (fun z6 ez6 => ?_)
  obtain rfl : z6 = (((24 : Int32) * ((qI S 0 97) - (1 : Int32))) + (qI S 44 ((((qI S 0 97) - (1 : Int32)).toInt).toNat))) := ez6
  refine lv_iload_n hx hb dX14_tagAt_25 rfl (lv_at hl 1 rfl) ?_
  refine lv_isub hx hb dX14_tagAt_26 ?_
  refine lv_topi (fun z7 ez7 => ?_)
  obtain rfl : z7 = ((((24 : Int32) * ((qI S 0 97) - (1 : Int32))) + (qI S 44 ((((qI S 0 97) - (1 : Int32)).toInt).toNat))) - x1) := ez7
  obtain ⟨hv8, hd⟩ := hd
  refine va_bald hx hb hR.K hR.P 48 0 (hR.atB (hR.w.2.1 _ fin_95).2.1) rfl (k_ixN (k_ix (n := 1440) (x := ((((24 : Int32) * ((qI S 0 97) - (1 : Int32))) + (qI S 44 ((((qI S 0 97) - (1 : Int32)).toInt).toNat))) - x1)) (a := ((((24 : Int32) * ((qI S 0 97) - (1 : Int32))) + (qI S 44 ((((qI S 0 97) - (1 : Int32)).toInt).toNat))) - x1).toInt) rfl hv8) (hR.w.2.1 _ fin_95).2.2) dX14_tagAt_27 ?_
  refine lv_topi (fun z9 ez9 => ?_)
  obtain rfl : z9 = (qI S 48 ((((((24 : Int32) * ((qI S 0 97) - (1 : Int32))) + (qI S 44 ((((qI S 0 97) - (1 : Int32)).toInt).toNat))) - x1).toInt).toNat)) := ez9
  exact W.iret (v := (qI S 48 ((((((24 : Int32) * ((qI S 0 97) - (1 : Int32))) + (qI S 44 ((((qI S 0 97) - (1 : Int32)).toInt).toNat))) - x1).toInt).toNat))) hx hb hr (fun t9 ht9 hW9 => ⟨⟨_, (), rfl, hf.trans hf0.symm, ⟨by rw [ht9]; exact hR.P, hR.D⟩⟩, hR.sS.F ht9⟩) hR.sS.2.2 dX14_tagAt_28
def w_got (S : MS) (x1 : Int32) (Q : Int64 → MS → Prop) : Prop := (∀ a2 : Int32, a2 = ((qI S 0 97) - (1 : Int32)) → (((0 : Int) ≤ a2.toInt ∧ a2.toInt < 60) ∧ (((0 : Int) ≤ a2.toInt ∧ a2.toInt < 60) ∧ (∀ S7, S7 = wI S 44 a2.toInt.toNat ((qI S 44 a2.toInt.toNat) - x1) → (((0 : Int) ≤ a2.toInt ∧ a2.toInt < 60) ∧ (((0 : Int) ≤ (((24 : Int32) * a2) + (qI S7 44 a2.toInt.toNat)).toInt ∧ (((24 : Int32) * a2) + (qI S7 44 a2.toInt.toNat)).toInt < 1440) ∧ Q (qJ S7 46 (((((24 : Int32) * a2) + (qI S7 44 a2.toInt.toNat)).toInt).toNat)) S7))))))
set_option maxHeartbeats 2000000 in
set_option maxRecDepth 100000 in
theorem r_got (l : Launch) (g : Gr) (ad : Nat → Nat) (sz : Nat) (S : MS) (x1 : Int32) (hw : wfM S) (Q : Int64 → MS → Prop) (h : w_got S x1 Q) : Met l yX14_got (wt2 yX14_got cX14_got 3 (some .long)) ({ frames := 0, cells := 0, slots := 0, locals := 0 }) (va_Pc [.ref (ad 0), .int x1] (st_R g ad sz S)) (va_Ql (fun (r : Int64) (u : MS) => Q r u ∧ wfM u ∧ shy S u) (fun (u : MS) (t : State) => qE g ad (va_A (Wd g ad S) sz) u t) (va_A (Wd g ad S) sz)) 0 0 (va_A (Wd g ad S) sz) := by
  refine Met.ofW (cc := cX14_got) (maxL := 3) (ret := (some .long)) (by decide) rfl ?_
  intro p e s m args below meth c s₁ B hml hv
  obtain ⟨rfl, hsz, hP, hK, hD0, hex, hE⟩ := hv
  have hx := B.exec
  have hb := B.bytes
  have hr := B.returns
  have hts0 := atoms_spec (ws := wt2 yX14_got cX14_got 3 (some .long)) B.pre
  have hts : ∀ w ∈ tb2, w.before _ s = true := fun w h => hts0 w (List.mem_cons_of_mem _ h)
  have hown : s.vm.findClass RX14 = some m.cls := findClass_of_methodNamed B.named
  subst hsz
  have hD := hD0.self (sz := s.heap.size)
  generalize hAe : va_A (Wd g ad S) s.heap.size = A at hD hE ⊢
  have hA : ∀ q : Nat, s.heap.size ≤ q → A q := fun q h => by rw [← hAe]; exact Or.inr h
  have hR : Rep g ad A s S s.heap [] := ⟨hK, hP, hD, va_S.rf, hw⟩
  clear hK hP hD hD0
  have hl := lv_entry ([.ref (ad 0), .int x1]) (n := 3) (Nat.le_of_ble_eq_true rfl)
  rw [lg_entry_eq]
  generalize (lg_sl ([.ref (ad 0), .int x1]) ++ List.replicate (3 - (lg_sl ([.ref (ad 0), .int x1])).length) Slot.unset).toArray = ls at hl ⊢
  have hl : lv_has ls 3 [(0, .ref (ad 0)), (1, .int x1)] := hl
  have hsh : shy S S := shy.rf
  unfold w_got at h
  refine lv_aload_n hx hb dX14_got_0 rfl (lv_at hl 0 rfl) ?_
  refine va_get (D := rD g) (ci := 13) (v := .int (qI S 0 97)) (C := RX14) (T := TX14) (N := 143) hx hb hts in2X14 hown hR.K hR.P 0 (hR.at14 hR.w.1) rfl 97 (by decide) (hts _ kx_616) (fun _ h9 => h9) rfl dX14_got_1 ?_
  refine lv_iconst (v := 1) hx hb dX14_got_4 (by decide) ?_
  refine lv_isub hx hb dX14_got_5 ?_
  refine lv_topi (fun z1 ez1 => ?_)
  obtain rfl : z1 = ((qI S 0 97) - (1 : Int32)) := ez1
  obtain ⟨a2, ea2⟩ : ∃ z, z = ((qI S 0 97) - (1 : Int32)) := ⟨_, rfl⟩
  rw [← ea2]
  replace h := h a2 ea2
  refine lv_istore_n (lv' := [(2, .int a2), (0, .ref (ad 0)), (1, .int x1)]) hx hb dX14_got_6 rfl hl (by decide) rfl (fun ls hl => ?_)
  refine lv_aload_n hx hb dX14_got_7 rfl (lv_at hl 1 rfl) ?_
  refine va_get (D := rD g) (ci := 13) (v := .ref (ad 44)) (C := RX14) (T := TX14) (N := 143) hx hb hts in2X14 hown hR.K hR.P 0 (hR.at14 hR.w.1) rfl 91 (by decide) (hts _ kx_623) (fun _ h9 => h9) (congrArg (fun z => some (vf ad z)) (hR.w.2.1 _ fin_91).1) dX14_got_8 ?_
  refine lv_iload_n hx hb dX14_got_11 rfl (lv_at hl 0 rfl) ?_
  refine lv_dup2_11 hx hb dX14_got_12 rfl rfl ?_
  obtain ⟨hv3, h⟩ := h
  refine va_iald hx hb hR.K hR.P 44 1 (hR.atI (hR.w.2.1 _ fin_91).2.1) rfl (k_ixN (k_ix (n := 60) (x := a2) (a := a2.toInt) rfl hv3) (hR.w.2.1 _ fin_91).2.2) dX14_got_13 ?_
  refine lv_topi (fun z4 ez4 => ?_)
  obtain rfl : z4 = (qI S 44 a2.toInt.toNat) := ez4
  refine lv_iload_n hx hb dX14_got_14 rfl (lv_at hl 2 rfl) ?_
  refine lv_isub hx hb dX14_got_15 ?_
  refine lv_topi (fun z5 ez5 => ?_)
  obtain rfl : z5 = ((qI S 44 a2.toInt.toNat) - x1) := ez5
  obtain ⟨hv6, h⟩ := h
  refine va_iast hx hb hR.K hR.P hR.D hR.sS 44 1 (hR.atI (hR.w.2.1 _ fin_91).2.1) rfl (k_ixN (k_ix (n := 60) (x := a2) (a := a2.toInt) rfl hv6) (hR.w.2.1 _ fin_91).2.2) dX14_got_16 (fun H locs hP hD hS => ?_)
  have hR : Rep g ad A s (wI S 44 a2.toInt.toNat ((qI S 44 a2.toInt.toNat) - x1)) H locs := hR.aI (hR.w.2.1 _ fin_91).2.1 hP hD hS
  obtain ⟨S7, eS7⟩ : ∃ z, z = wI S 44 a2.toInt.toNat ((qI S 44 a2.toInt.toNat) - x1) := ⟨_, rfl⟩
  rw [← eS7] at hR
  replace h := h S7 eS7
  have hsh : shy S S7 := by rw [eS7]; exact hsh
  refine lv_aload_n hx hb dX14_got_17 rfl (lv_at hl 1 rfl) ?_
  refine va_get (D := rD g) (ci := 13) (v := .ref (ad 46)) (C := RX14) (T := TX14) (N := 143) hx hb hts in2X14 hown hR.K hR.P 0 (hR.at14 hR.w.1) rfl 93 (by decide) (hts _ kx_629) (fun _ h9 => h9) (congrArg (fun z => some (vf ad z)) (hR.w.2.1 _ fin_93).1) dX14_got_18 ?_
  refine lv_bipush (v := 24) hx hb dX14_got_21 (by decide) ?_
  refine lv_iload_n hx hb dX14_got_23 rfl (lv_at hl 0 rfl) ?_
  refine lv_imul hx hb dX14_got_24 ?_
  refine lv_topi (fun z8 ez8 => ?_)
  obtain rfl : z8 = ((24 : Int32) * a2) := ez8
  refine lv_aload_n hx hb dX14_got_25 rfl (lv_at hl 1 rfl) ?_
  refine va_get (D := rD g) (ci := 13) (v := .ref (ad 44)) (C := RX14) (T := TX14) (N := 143) hx hb hts in2X14 hown hR.K hR.P 0 (hR.at14 hR.w.1) rfl 91 (by decide) (hts _ kx_623) (fun _ h9 => h9) (congrArg (fun z => some (vf ad z)) (hR.w.2.1 _ fin_91).1) dX14_got_26 ?_
  refine lv_iload_n hx hb dX14_got_29 rfl (lv_at hl 0 rfl) ?_
  obtain ⟨hv9, h⟩ := h
  refine va_iald hx hb hR.K hR.P 44 1 (hR.atI (hR.w.2.1 _ fin_91).2.1) rfl (k_ixN (k_ix (n := 60) (x := a2) (a := a2.toInt) rfl hv9) (hR.w.2.1 _ fin_91).2.2) dX14_got_30 ?_
  refine lv_topi (fun z10 ez10 => ?_)
  obtain rfl : z10 = (qI S7 44 a2.toInt.toNat) := ez10
  refine lv_iadd hx hb dX14_got_31 ?_
  refine lv_topi (fun z11 ez11 => ?_)
  obtain rfl : z11 = (((24 : Int32) * a2) + (qI S7 44 a2.toInt.toNat)) := ez11
  obtain ⟨hv12, h⟩ := h
  refine va_lald hx hb hR.K hR.P 46 3 (hR.atL (hR.w.2.1 _ fin_93).2.1) rfl (k_ixN (k_ix (n := 1440) (x := (((24 : Int32) * a2) + (qI S7 44 a2.toInt.toNat))) (a := (((24 : Int32) * a2) + (qI S7 44 a2.toInt.toNat)).toInt) rfl hv12) (hR.w.2.1 _ fin_93).2.2) dX14_got_32 ?_
  refine lv_topl (fun z13 ez13 => ?_)
  obtain rfl : z13 = (qJ S7 46 (((((24 : Int32) * a2) + (qI S7 44 a2.toInt.toNat)).toInt).toNat)) := ez13
  exact W.lret (v := (qJ S7 46 (((((24 : Int32) * a2) + (qI S7 44 a2.toInt.toNat)).toInt).toNat))) hx hb hr (fun t9 ht9 hW9 => ⟨⟨_, S7, rfl, ⟨h, hR.w, hsh⟩, ⟨by rw [ht9]; exact hR.P, hR.D⟩⟩, hR.sS.F ht9⟩) hR.sS.2.2 dX14_got_33
def w_gotInt (S : MS) (Q : Int32 → MS → Prop) : Prop := (∃ Q1, w_got S (1 : Int32) Q1 ∧ ∀ r2 S3, Q1 r2 S3 → Q (r2.toInt32) S3)
set_option maxHeartbeats 2000000 in
set_option maxRecDepth 100000 in
theorem r_gotInt (l : Launch) (g : Gr) (ad : Nat → Nat) (sz : Nat) (S : MS) (hw : wfM S) (Q : Int32 → MS → Prop) (h : w_gotInt S Q) : Met l yX14_gotInt (wt2 yX14_gotInt cX14_gotInt 1 (some .int)) ({ frames := 1, cells := 0, slots := 0, locals := 22 }) (va_Pc [.ref (ad 0)] (st_R g ad sz S)) (va_Qi (fun (r : Int32) (u : MS) => Q r u ∧ wfM u ∧ shy S u) (fun (u : MS) (t : State) => qE g ad (va_A (Wd g ad S) sz) u t) (va_A (Wd g ad S) sz)) 0 0 (va_A (Wd g ad S) sz) := by
  refine Met.ofW (cc := cX14_gotInt) (maxL := 1) (ret := (some .int)) (by decide) rfl ?_
  intro p e s m args below meth c s₁ B hml hv
  obtain ⟨rfl, hsz, hP, hK, hD0, hex, hE⟩ := hv
  have hx := B.exec
  have hb := B.bytes
  have hr := B.returns
  have hts0 := atoms_spec (ws := wt2 yX14_gotInt cX14_gotInt 1 (some .int)) B.pre
  have hts : ∀ w ∈ tb2, w.before _ s = true := fun w h => hts0 w (List.mem_cons_of_mem _ h)
  have hown : s.vm.findClass RX14 = some m.cls := findClass_of_methodNamed B.named
  subst hsz
  have hD := hD0.self (sz := s.heap.size)
  generalize hAe : va_A (Wd g ad S) s.heap.size = A at hD hE ⊢
  have hA : ∀ q : Nat, s.heap.size ≤ q → A q := fun q h => by rw [← hAe]; exact Or.inr h
  have hR : Rep g ad A s S s.heap [] := ⟨hK, hP, hD, va_S.rf, hw⟩
  clear hK hP hD hD0
  have hl := lv_entry ([.ref (ad 0)]) (n := 1) (Nat.le_of_ble_eq_true rfl)
  rw [lg_entry_eq]
  generalize (lg_sl ([.ref (ad 0)]) ++ List.replicate (1 - (lg_sl ([.ref (ad 0)])).length) Slot.unset).toArray = ls at hl ⊢
  have hl : lv_has ls 1 [(0, .ref (ad 0))] := hl
  have hsh : shy S S := shy.rf
  unfold w_gotInt at h
  refine lv_aload_n hx hb dX14_gotInt_0 rfl (lv_at hl 0 rfl) ?_
  refine lv_iconst (v := 1) hx hb dX14_gotInt_1 (by decide) ?_
  obtain ⟨Q1, h0, h⟩ := h
  have hFc := rfree hR hA
  refine va_calll (va_runV (As := [.int 1]) (rest := []) ⟨hx, hb, hml, hown, hts⟩ (r_got l g ad s.heap.size S (1 : Int32) hR.w  Q1 h0) (cwV 1 hts (gd2_V kx_635 kx_636 kx_637 kx_177 kx_638) rfl rfl rfl (by decide +kernel) ⟨Nat.le_of_ble_eq_true rfl, Nat.le_of_ble_eq_true rfl⟩) ⟨rblind, va_recv hR.K hR.P (ci := 13) (q0 := 0) rfl (hR.at14 hR.w.1), fun U hU hW9 => rmk hU hW9 hR hex hE hFc⟩ rfl rfl hl.1 rfl (lv_room (Nat.le_of_ble_eq_true rfl)) dX14_gotInt_2 ⟨Nat.le_of_ble_eq_true rfl, Nat.le_of_ble_eq_true rfl⟩) hR.sS (fun q _ h => hFc q h) hFc (fun r2 S3 t9 H1 locs ht9 hvm9 hw9 hB9 hz9 hk9 hS => ?_)
  obtain ⟨hq4, hw9, hs9⟩ := hw9
  have hR : Rep g ad A s S3 H1 locs := hR.call ht9 hB9 hw9 hS hFc
  have hsh := hsh.tr hs9
  replace h := h r2 S3 hq4
  clear hB9 hz9 hk9 hvm9 ht9 hw9 hs9 hS
  generalize H1 = H at hR ⊢
  refine lv_l2i (v := (r2.toInt32)) hx hb dX14_gotInt_5 rfl ?_
  exact W.iret (v := (r2.toInt32)) hx hb hr (fun t9 ht9 hW9 => ⟨⟨_, S3, rfl, ⟨h, hR.w, hsh⟩, ⟨by rw [ht9]; exact hR.P, hR.D⟩⟩, hR.sS.F ht9⟩) hR.sS.2.2 dX14_gotInt_6
def f_slot (S : MS) (x1 : Int32) : Int32 := (((24 : Int32) * ((qI S 0 97) - (1 : Int32))) + x1)
def d_slot (S : MS) (x1 : Int32) : Prop := True
set_option maxHeartbeats 2000000 in
set_option maxRecDepth 100000 in
theorem r_slot (l : Launch) (g : Gr) (ad : Nat → Nat) (sz : Nat) (S : MS) (x1 : Int32) (hw : wfM S) (hd : d_slot S x1) : Met l yX14_slot (wt2 yX14_slot cX14_slot 2 (some .int)) ({ frames := 0, cells := 0, slots := 0, locals := 0 }) (va_Pc [.ref (ad 0), .int x1] (st_R g ad sz S)) (va_Qi (fun (r : Int32) (_ : Unit) => r = f_slot S x1) (fun (_ : Unit) (t : State) => qE g ad (va_A (Wd g ad S) sz) S t) (va_A (Wd g ad S) sz)) 0 0 (va_A (Wd g ad S) sz) := by
  refine Met.ofW (cc := cX14_slot) (maxL := 2) (ret := (some .int)) (by decide) rfl ?_
  intro p e s m args below meth c s₁ B hml hv
  obtain ⟨rfl, hsz, hP, hK, hD0, hex, hE⟩ := hv
  have hx := B.exec
  have hb := B.bytes
  have hr := B.returns
  have hts0 := atoms_spec (ws := wt2 yX14_slot cX14_slot 2 (some .int)) B.pre
  have hts : ∀ w ∈ tb2, w.before _ s = true := fun w h => hts0 w (List.mem_cons_of_mem _ h)
  have hown : s.vm.findClass RX14 = some m.cls := findClass_of_methodNamed B.named
  subst hsz
  have hD := hD0.self (sz := s.heap.size)
  generalize hAe : va_A (Wd g ad S) s.heap.size = A at hD hE ⊢
  have hA : ∀ q : Nat, s.heap.size ≤ q → A q := fun q h => by rw [← hAe]; exact Or.inr h
  have hR : Rep g ad A s S s.heap [] := ⟨hK, hP, hD, va_S.rf, hw⟩
  clear hK hP hD hD0
  have hl := lv_entry ([.ref (ad 0), .int x1]) (n := 2) (Nat.le_of_ble_eq_true rfl)
  rw [lg_entry_eq]
  generalize (lg_sl ([.ref (ad 0), .int x1]) ++ List.replicate (2 - (lg_sl ([.ref (ad 0), .int x1])).length) Slot.unset).toArray = ls at hl ⊢
  have hl : lv_has ls 2 [(0, .ref (ad 0)), (1, .int x1)] := hl
  obtain ⟨r0, hf⟩ : ∃ r0, f_slot S x1 = r0 := ⟨_, rfl⟩
  have hf0 := hf
  unfold f_slot at hf
  unfold d_slot at hd
  refine lv_bipush (v := 24) hx hb dX14_slot_0 (by decide) ?_
  refine lv_aload_n hx hb dX14_slot_2 rfl (lv_at hl 0 rfl) ?_
  refine va_get (D := rD g) (ci := 13) (v := .int (qI S 0 97)) (C := RX14) (T := TX14) (N := 143) hx hb hts in2X14 hown hR.K hR.P 0 (hR.at14 hR.w.1) rfl 97 (by decide) (hts _ kx_616) (fun _ h9 => h9) rfl dX14_slot_3 ?_
  refine lv_iconst (v := 1) hx hb dX14_slot_6 (by decide) ?_
  refine lv_isub hx hb dX14_slot_7 ?_
  refine lv_topi (fun z1 ez1 => ?_)
  obtain rfl : z1 = ((qI S 0 97) - (1 : Int32)) := ez1
  refine lv_imul hx hb dX14_slot_8 ?_
  refine lv_topi (fun z2 ez2 => ?_)
  obtain rfl : z2 = ((24 : Int32) * ((qI S 0 97) - (1 : Int32))) := ez2
  refine lv_iload_n hx hb dX14_slot_9 rfl (lv_at hl 1 rfl) ?_
  refine lv_iadd hx hb dX14_slot_10 ?_
  refine lv_topi (fun z3 ez3 => ?_)
  obtain rfl : z3 = (((24 : Int32) * ((qI S 0 97) - (1 : Int32))) + x1) := ez3
  exact W.iret (v := (((24 : Int32) * ((qI S 0 97) - (1 : Int32))) + x1)) hx hb hr (fun t9 ht9 hW9 => ⟨⟨_, (), rfl, hf.trans hf0.symm, ⟨by rw [ht9]; exact hR.P, hR.D⟩⟩, hR.sS.F ht9⟩) hR.sS.2.2 dX14_slot_11
def w_goTo (S : MS) (x1 : Int32) (Q : MS → Prop) : Prop := (((0 : Int) ≤ ((qI S 0 97) - (1 : Int32)).toInt ∧ ((qI S 0 97) - (1 : Int32)).toInt < 60) ∧ (∀ S3, S3 = wI S 43 ((((qI S 0 97) - (1 : Int32)).toInt).toNat) x1 → Q S3))
set_option maxHeartbeats 2000000 in
set_option maxRecDepth 100000 in
theorem r_goTo (l : Launch) (g : Gr) (ad : Nat → Nat) (sz : Nat) (S : MS) (x1 : Int32) (hw : wfM S) (Q : MS → Prop) (h : w_goTo S x1 Q) : Met l yX14_goTo (wt2 yX14_goTo cX14_goTo 2 none) ({ frames := 0, cells := 0, slots := 0, locals := 0 }) (va_Pc [.ref (ad 0), .int x1] (st_R g ad sz S)) (va_Qv (fun (u : MS) => Q u ∧ wfM u ∧ shy S u) (fun (u : MS) (t : State) => qE g ad (va_A (Wd g ad S) sz) u t) (va_A (Wd g ad S) sz)) 0 0 (va_A (Wd g ad S) sz) := by
  refine Met.ofW (cc := cX14_goTo) (maxL := 2) (ret := none) (by decide) rfl ?_
  intro p e s m args below meth c s₁ B hml hv
  obtain ⟨rfl, hsz, hP, hK, hD0, hex, hE⟩ := hv
  have hx := B.exec
  have hb := B.bytes
  have hr := B.returns
  have hts0 := atoms_spec (ws := wt2 yX14_goTo cX14_goTo 2 none) B.pre
  have hts : ∀ w ∈ tb2, w.before _ s = true := fun w h => hts0 w (List.mem_cons_of_mem _ h)
  have hown : s.vm.findClass RX14 = some m.cls := findClass_of_methodNamed B.named
  subst hsz
  have hD := hD0.self (sz := s.heap.size)
  generalize hAe : va_A (Wd g ad S) s.heap.size = A at hD hE ⊢
  have hA : ∀ q : Nat, s.heap.size ≤ q → A q := fun q h => by rw [← hAe]; exact Or.inr h
  have hR : Rep g ad A s S s.heap [] := ⟨hK, hP, hD, va_S.rf, hw⟩
  clear hK hP hD hD0
  have hl := lv_entry ([.ref (ad 0), .int x1]) (n := 2) (Nat.le_of_ble_eq_true rfl)
  rw [lg_entry_eq]
  generalize (lg_sl ([.ref (ad 0), .int x1]) ++ List.replicate (2 - (lg_sl ([.ref (ad 0), .int x1])).length) Slot.unset).toArray = ls at hl ⊢
  have hl : lv_has ls 2 [(0, .ref (ad 0)), (1, .int x1)] := hl
  have hsh : shy S S := shy.rf
  unfold w_goTo at h
  refine lv_aload_n hx hb dX14_goTo_0 rfl (lv_at hl 0 rfl) ?_
  refine va_get (D := rD g) (ci := 13) (v := .ref (ad 43)) (C := RX14) (T := TX14) (N := 143) hx hb hts in2X14 hown hR.K hR.P 0 (hR.at14 hR.w.1) rfl 90 (by decide) (hts _ kx_622) (fun _ h9 => h9) (congrArg (fun z => some (vf ad z)) (hR.w.2.1 _ fin_90).1) dX14_goTo_1 ?_
  refine lv_aload_n hx hb dX14_goTo_4 rfl (lv_at hl 0 rfl) ?_
  refine va_get (D := rD g) (ci := 13) (v := .int (qI S 0 97)) (C := RX14) (T := TX14) (N := 143) hx hb hts in2X14 hown hR.K hR.P 0 (hR.at14 hR.w.1) rfl 97 (by decide) (hts _ kx_616) (fun _ h9 => h9) rfl dX14_goTo_5 ?_
  refine lv_iconst (v := 1) hx hb dX14_goTo_8 (by decide) ?_
  refine lv_isub hx hb dX14_goTo_9 ?_
  refine lv_topi (fun z1 ez1 => ?_)
  obtain rfl : z1 = ((qI S 0 97) - (1 : Int32)) := ez1
  refine lv_iload_n hx hb dX14_goTo_10 rfl (lv_at hl 1 rfl) ?_
  obtain ⟨hv2, h⟩ := h
  refine va_iast hx hb hR.K hR.P hR.D hR.sS 43 1 (hR.atI (hR.w.2.1 _ fin_90).2.1) rfl (k_ixN (k_ix (n := 60) (x := ((qI S 0 97) - (1 : Int32))) (a := ((qI S 0 97) - (1 : Int32)).toInt) rfl hv2) (hR.w.2.1 _ fin_90).2.2) dX14_goTo_11 (fun H locs hP hD hS => ?_)
  have hR : Rep g ad A s (wI S 43 ((((qI S 0 97) - (1 : Int32)).toInt).toNat) x1) H locs := hR.aI (hR.w.2.1 _ fin_90).2.1 hP hD hS
  obtain ⟨S3, eS3⟩ : ∃ z, z = wI S 43 ((((qI S 0 97) - (1 : Int32)).toInt).toNat) x1 := ⟨_, rfl⟩
  rw [← eS3] at hR
  replace h := h S3 eS3
  have hsh : shy S S3 := by rw [eS3]; exact hsh
  exact W.vret hx hb hr (fun t9 ht9 hW9 => ⟨⟨S3, rfl, ⟨h, hR.w, hsh⟩, ⟨by rw [ht9]; exact hR.P, hR.D⟩⟩, hR.sS.F ht9⟩) hR.sS.2.2 dX14_goTo_12
def f_agrees_J21 (S : MS) : Int32 := (1 : Int32)
def d_agrees_J21 (S : MS) : Prop := True
def f_agrees_J10 (S : MS) (v10_0 : Int32) (v10_1 : Int32) : Int32 := (if v10_1.toInt = v10_0.toInt then f_agrees_J21 S else (if v10_1.toInt = 6 then f_agrees_J21 S else (0 : Int32)))
def d_agrees_J10 (S : MS) (v10_0 : Int32) (v10_1 : Int32) : Prop := (if v10_1.toInt = v10_0.toInt then d_agrees_J21 S else (if v10_1.toInt = 6 then d_agrees_J21 S else True))
def f_agrees_J36 (S : MS) : Int32 := (1 : Int32)
def d_agrees_J36 (S : MS) : Prop := True
def f_agrees (S : MS) (x0 : Int32) (x1 : Int32) : Int32 := (if x0.toInt = 4 then f_agrees_J10 S x0 x1 else (if x0.toInt = 5 then f_agrees_J10 S x0 x1 else (if x0.toInt = 0 then f_agrees_J36 S else (if x1.toInt = x0.toInt then f_agrees_J36 S else (0 : Int32)))))
def d_agrees (S : MS) (x0 : Int32) (x1 : Int32) : Prop := (if x0.toInt = 4 then d_agrees_J10 S x0 x1 else (if x0.toInt = 5 then d_agrees_J10 S x0 x1 else (if x0.toInt = 0 then d_agrees_J36 S else (if x1.toInt = x0.toInt then d_agrees_J36 S else True))))
set_option maxHeartbeats 2000000 in
set_option maxRecDepth 100000 in
theorem r_agrees (l : Launch) (g : Gr) (ad : Nat → Nat) (sz : Nat) (S : MS) (x0 : Int32) (x1 : Int32) (hw : wfM S) (hd : d_agrees S x0 x1) : Met l yX14_agrees (wt2 yX14_agrees cX14_agrees 2 (some .boolean)) ({ frames := 0, cells := 0, slots := 0, locals := 0 }) (va_Pc [.int x0, .int x1] (st_R g ad sz S)) (va_Qi (fun (r : Int32) (_ : Unit) => r = f_agrees S x0 x1 ∧ (r = 0 ∨ r = 1)) (fun (_ : Unit) (t : State) => qE g ad (va_A (Wd g ad S) sz) S t) (va_A (Wd g ad S) sz)) 0 0 (va_A (Wd g ad S) sz) := by
  refine Met.ofW (cc := cX14_agrees) (maxL := 2) (ret := (some .boolean)) (by decide) rfl ?_
  intro p e s m args below meth c s₁ B hml hv
  obtain ⟨rfl, hsz, hP, hK, hD0, hex, hE⟩ := hv
  have hx := B.exec
  have hb := B.bytes
  have hr := B.returns
  have hts0 := atoms_spec (ws := wt2 yX14_agrees cX14_agrees 2 (some .boolean)) B.pre
  have hts : ∀ w ∈ tb2, w.before _ s = true := fun w h => hts0 w (List.mem_cons_of_mem _ h)
  have hown : s.vm.findClass RX14 = some m.cls := findClass_of_methodNamed B.named
  subst hsz
  have hD := hD0.self (sz := s.heap.size)
  generalize hAe : va_A (Wd g ad S) s.heap.size = A at hD hE ⊢
  have hA : ∀ q : Nat, s.heap.size ≤ q → A q := fun q h => by rw [← hAe]; exact Or.inr h
  have hR : Rep g ad A s S s.heap [] := ⟨hK, hP, hD, va_S.rf, hw⟩
  clear hK hP hD hD0
  have hl := lv_entry ([.int x0, .int x1]) (n := 2) (Nat.le_of_ble_eq_true rfl)
  rw [lg_entry_eq]
  generalize (lg_sl ([.int x0, .int x1]) ++ List.replicate (2 - (lg_sl ([.int x0, .int x1])).length) Slot.unset).toArray = ls at hl ⊢
  have hl : lv_has ls 2 [(0, .int x0), (1, .int x1)] := hl
  obtain ⟨r0, hf⟩ : ∃ r0, f_agrees S x0 x1 = r0 := ⟨_, rfl⟩
  have hf0 := hf
  unfold f_agrees at hf
  unfold d_agrees at hd
  refine lv_iload_n hx hb dX14_agrees_0 rfl (lv_at hl 0 rfl) ?_
  refine lv_iconst (v := 4) hx hb dX14_agrees_1 (by decide) ?_
  have J_10 : ∀ (v10_0 : Int32) (v10_1 : Int32) (H : Heap) (locs : List Loc) (ls : Array Slot), d_agrees_J10 S v10_0 v10_1 → f_agrees_J10 S v10_0 v10_1 = r0 → Rep g ad A s S H locs → lv_has ls 2 [(0, .int v10_0), (1, .int v10_1)] → W p l e (headSpec (wt2 yX14_agrees cX14_agrees 2 (some .boolean)) ({ frames := 0, cells := 0, slots := 0, locals := 0 })).room s m ([.int x0, .int x1] : List Value).toArray below meth c H locs 0 0 (MQ below (va_Qi (fun (r : Int32) (_ : Unit) => r = f_agrees S x0 x1 ∧ (r = 0 ∨ r = 1)) (fun (_ : Unit) (t : State) => qE g ad A S t) A) ([.int x0, .int x1] : List Value).toArray s 0 0 A) (F0 m 10 ls []) := by
    intro v10_0 v10_1 H locs ls hd hf hR hl
    unfold d_agrees_J10 at hd
    unfold f_agrees_J10 at hf
    refine lv_iload_n hx hb dX14_agrees_10 rfl (lv_at hl 1 rfl) ?_
    refine lv_iload_n hx hb dX14_agrees_11 rfl (lv_at hl 0 rfl) ?_
    have J_21 : ∀ (H : Heap) (locs : List Loc) (ls : Array Slot), d_agrees_J21 S → f_agrees_J21 S = r0 → Rep g ad A s S H locs → lv_has ls 2 [] → W p l e (headSpec (wt2 yX14_agrees cX14_agrees 2 (some .boolean)) ({ frames := 0, cells := 0, slots := 0, locals := 0 })).room s m ([.int x0, .int x1] : List Value).toArray below meth c H locs 0 0 (MQ below (va_Qi (fun (r : Int32) (_ : Unit) => r = f_agrees S x0 x1 ∧ (r = 0 ∨ r = 1)) (fun (_ : Unit) (t : State) => qE g ad A S t) A) ([.int x0, .int x1] : List Value).toArray s 0 0 A) (F0 m 21 ls []) := by
      intro H locs ls hd hf hR hl
      unfold d_agrees_J21 at hd
      unfold f_agrees_J21 at hf
      refine lv_iconst (v := 1) hx hb dX14_agrees_21 (by decide) ?_
      refine lv_goto (tgt := 26) hx hb dX14_agrees_22 (by decide) ?_
      exact W.zret (v := 1) hx hb hr (nz (Or.inr rfl)) (fun t9 ht9 hW9 => ⟨⟨_, (), rfl, ⟨hf.trans hf0.symm, (Or.inr rfl)⟩, ⟨by rw [ht9]; exact hR.P, hR.D⟩⟩, hR.sS.F ht9⟩) hR.sS.2.2 dX14_agrees_26
    refine lv_icmp_eq (tgt := 21) hx hb dX14_agrees_12 (by decide) (fun c1 => ?_) (fun c1 => ?_)
    · rw [if_pos (k_eq rfl rfl c1)] at hf
      (try rw [if_pos (k_eq rfl rfl c1)] at hd)
      exact J_21 _ _ ls hd hf  hR (lv_sub hl [] rfl)
    · rw [if_neg (k_ne rfl rfl c1)] at hf
      (try rw [if_neg (k_ne rfl rfl c1)] at hd)
      refine lv_iload_n hx hb dX14_agrees_15 rfl (lv_at hl 1 rfl) ?_
      refine lv_bipush (v := 6) hx hb dX14_agrees_16 (by decide) ?_
      refine lv_icmp_ne (tgt := 25) hx hb dX14_agrees_18 (by decide) (fun c2 => ?_) (fun c2 => ?_)
      · rw [if_neg (k_ne rfl (by decide) c2)] at hf
        (try rw [if_neg (k_ne rfl (by decide) c2)] at hd)
        refine lv_iconst (v := 0) hx hb dX14_agrees_25 (by decide) ?_
        exact W.zret (v := 0) hx hb hr (nz (Or.inl rfl)) (fun t9 ht9 hW9 => ⟨⟨_, (), rfl, ⟨hf.trans hf0.symm, (Or.inl rfl)⟩, ⟨by rw [ht9]; exact hR.P, hR.D⟩⟩, hR.sS.F ht9⟩) hR.sS.2.2 dX14_agrees_26
      · rw [if_pos (k_eq rfl (by decide) c2)] at hf
        (try rw [if_pos (k_eq rfl (by decide) c2)] at hd)
        exact J_21 _ _ ls hd hf  hR (lv_sub hl [] rfl)
  refine lv_icmp_eq (tgt := 10) hx hb dX14_agrees_2 (by decide) (fun c3 => ?_) (fun c3 => ?_)
  · rw [if_pos (k_eq rfl (by decide) c3)] at hf
    (try rw [if_pos (k_eq rfl (by decide) c3)] at hd)
    exact J_10 x0 x1 _ _ ls hd hf  hR (lv_sub hl [0, 1] rfl)
  · rw [if_neg (k_ne rfl (by decide) c3)] at hf
    (try rw [if_neg (k_ne rfl (by decide) c3)] at hd)
    refine lv_iload_n hx hb dX14_agrees_5 rfl (lv_at hl 0 rfl) ?_
    refine lv_iconst (v := 5) hx hb dX14_agrees_6 (by decide) ?_
    refine lv_icmp_ne (tgt := 27) hx hb dX14_agrees_7 (by decide) (fun c4 => ?_) (fun c4 => ?_)
    · rw [if_neg (k_ne rfl (by decide) c4)] at hf
      (try rw [if_neg (k_ne rfl (by decide) c4)] at hd)
      refine lv_iload_n hx hb dX14_agrees_27 rfl (lv_at hl 0 rfl) ?_
      have J_36 : ∀ (H : Heap) (locs : List Loc) (ls : Array Slot), d_agrees_J36 S → f_agrees_J36 S = r0 → Rep g ad A s S H locs → lv_has ls 2 [] → W p l e (headSpec (wt2 yX14_agrees cX14_agrees 2 (some .boolean)) ({ frames := 0, cells := 0, slots := 0, locals := 0 })).room s m ([.int x0, .int x1] : List Value).toArray below meth c H locs 0 0 (MQ below (va_Qi (fun (r : Int32) (_ : Unit) => r = f_agrees S x0 x1 ∧ (r = 0 ∨ r = 1)) (fun (_ : Unit) (t : State) => qE g ad A S t) A) ([.int x0, .int x1] : List Value).toArray s 0 0 A) (F0 m 36 ls []) := by
        intro H locs ls hd hf hR hl
        unfold d_agrees_J36 at hd
        unfold f_agrees_J36 at hf
        refine lv_iconst (v := 1) hx hb dX14_agrees_36 (by decide) ?_
        refine lv_goto (tgt := 41) hx hb dX14_agrees_37 (by decide) ?_
        exact W.zret (v := 1) hx hb hr (nz (Or.inr rfl)) (fun t9 ht9 hW9 => ⟨⟨_, (), rfl, ⟨hf.trans hf0.symm, (Or.inr rfl)⟩, ⟨by rw [ht9]; exact hR.P, hR.D⟩⟩, hR.sS.F ht9⟩) hR.sS.2.2 dX14_agrees_41
      refine lv_if_eq (tgt := 36) hx hb dX14_agrees_28 (by decide) (fun c5 => ?_) (fun c5 => ?_)
      · rw [if_pos (k_eq rfl (by decide) c5)] at hf
        (try rw [if_pos (k_eq rfl (by decide) c5)] at hd)
        exact J_36 _ _ ls hd hf  hR (lv_sub hl [] rfl)
      · rw [if_neg (k_ne rfl (by decide) c5)] at hf
        (try rw [if_neg (k_ne rfl (by decide) c5)] at hd)
        refine lv_iload_n hx hb dX14_agrees_31 rfl (lv_at hl 1 rfl) ?_
        refine lv_iload_n hx hb dX14_agrees_32 rfl (lv_at hl 0 rfl) ?_
        refine lv_icmp_ne (tgt := 40) hx hb dX14_agrees_33 (by decide) (fun c6 => ?_) (fun c6 => ?_)
        · rw [if_neg (k_ne rfl rfl c6)] at hf
          (try rw [if_neg (k_ne rfl rfl c6)] at hd)
          refine lv_iconst (v := 0) hx hb dX14_agrees_40 (by decide) ?_
          exact W.zret (v := 0) hx hb hr (nz (Or.inl rfl)) (fun t9 ht9 hW9 => ⟨⟨_, (), rfl, ⟨hf.trans hf0.symm, (Or.inl rfl)⟩, ⟨by rw [ht9]; exact hR.P, hR.D⟩⟩, hR.sS.F ht9⟩) hR.sS.2.2 dX14_agrees_41
        · rw [if_pos (k_eq rfl rfl c6)] at hf
          (try rw [if_pos (k_eq rfl rfl c6)] at hd)
          exact J_36 _ _ ls hd hf  hR (lv_sub hl [] rfl)
    · rw [if_pos (k_eq rfl (by decide) c4)] at hf
      (try rw [if_pos (k_eq rfl (by decide) c4)] at hd)
      exact J_10 x0 x1 _ _ ls hd hf  hR (lv_sub hl [0, 1] rfl)
def f_isTaken_J45 (S : MS) : Int32 := (1 : Int32)
def d_isTaken_J45 (S : MS) : Prop := True
def f_isTaken_J49 (S : MS) : Int32 := (0 : Int32)
def d_isTaken_J49 (S : MS) : Prop := True
def f_isTaken_J34 (S : MS) (v34_0 : Int32) (v34_1 : Int32) : Int32 := (if v34_1.toInt = 5 then (if v34_0.toInt = 65 then f_isTaken_J49 S else f_isTaken_J45 S) else f_isTaken_J49 S)
def d_isTaken_J34 (S : MS) (v34_0 : Int32) (v34_1 : Int32) : Prop := (if v34_1.toInt = 5 then (if v34_0.toInt = 65 then d_isTaken_J49 S else d_isTaken_J45 S) else d_isTaken_J49 S)
def f_isTaken (S : MS) (x0 : Int32) (x1 : Int32) : Int32 := (if x0.toInt = 73 then (if x1.toInt = 1 then (1 : Int32) else (0 : Int32)) else (if x1.toInt = 6 then f_isTaken_J45 S else (if x1.toInt = 4 then (if x0.toInt = 69 then f_isTaken_J34 S x0 x1 else f_isTaken_J45 S) else f_isTaken_J34 S x0 x1)))
def d_isTaken (S : MS) (x0 : Int32) (x1 : Int32) : Prop := (if x0.toInt = 73 then True else (if x1.toInt = 6 then d_isTaken_J45 S else (if x1.toInt = 4 then (if x0.toInt = 69 then d_isTaken_J34 S x0 x1 else d_isTaken_J45 S) else d_isTaken_J34 S x0 x1)))
set_option maxHeartbeats 2000000 in
set_option maxRecDepth 100000 in
theorem r_isTaken (l : Launch) (g : Gr) (ad : Nat → Nat) (sz : Nat) (S : MS) (x0 : Int32) (x1 : Int32) (hw : wfM S) (hd : d_isTaken S x0 x1) : Met l yX14_isTaken (wt2 yX14_isTaken cX14_isTaken 2 (some .boolean)) ({ frames := 0, cells := 0, slots := 0, locals := 0 }) (va_Pc [.int x0, .int x1] (st_R g ad sz S)) (va_Qi (fun (r : Int32) (_ : Unit) => r = f_isTaken S x0 x1 ∧ (r = 0 ∨ r = 1)) (fun (_ : Unit) (t : State) => qE g ad (va_A (Wd g ad S) sz) S t) (va_A (Wd g ad S) sz)) 0 0 (va_A (Wd g ad S) sz) := by
  refine Met.ofW (cc := cX14_isTaken) (maxL := 2) (ret := (some .boolean)) (by decide) rfl ?_
  intro p e s m args below meth c s₁ B hml hv
  obtain ⟨rfl, hsz, hP, hK, hD0, hex, hE⟩ := hv
  have hx := B.exec
  have hb := B.bytes
  have hr := B.returns
  have hts0 := atoms_spec (ws := wt2 yX14_isTaken cX14_isTaken 2 (some .boolean)) B.pre
  have hts : ∀ w ∈ tb2, w.before _ s = true := fun w h => hts0 w (List.mem_cons_of_mem _ h)
  have hown : s.vm.findClass RX14 = some m.cls := findClass_of_methodNamed B.named
  subst hsz
  have hD := hD0.self (sz := s.heap.size)
  generalize hAe : va_A (Wd g ad S) s.heap.size = A at hD hE ⊢
  have hA : ∀ q : Nat, s.heap.size ≤ q → A q := fun q h => by rw [← hAe]; exact Or.inr h
  have hR : Rep g ad A s S s.heap [] := ⟨hK, hP, hD, va_S.rf, hw⟩
  clear hK hP hD hD0
  have hl := lv_entry ([.int x0, .int x1]) (n := 2) (Nat.le_of_ble_eq_true rfl)
  rw [lg_entry_eq]
  generalize (lg_sl ([.int x0, .int x1]) ++ List.replicate (2 - (lg_sl ([.int x0, .int x1])).length) Slot.unset).toArray = ls at hl ⊢
  have hl : lv_has ls 2 [(0, .int x0), (1, .int x1)] := hl
  obtain ⟨r0, hf⟩ : ∃ r0, f_isTaken S x0 x1 = r0 := ⟨_, rfl⟩
  have hf0 := hf
  unfold f_isTaken at hf
  unfold d_isTaken at hd
  refine lv_iload_n hx hb dX14_isTaken_0 rfl (lv_at hl 0 rfl) ?_
  refine lv_bipush (v := 73) hx hb dX14_isTaken_1 (by decide) ?_
  refine lv_icmp_ne (tgt := 17) hx hb dX14_isTaken_3 (by decide) (fun c1 => ?_) (fun c1 => ?_)
  · rw [if_neg (k_ne rfl (by decide) c1)] at hf
    (try rw [if_neg (k_ne rfl (by decide) c1)] at hd)
    refine lv_iload_n hx hb dX14_isTaken_17 rfl (lv_at hl 1 rfl) ?_
    refine lv_bipush (v := 6) hx hb dX14_isTaken_18 (by decide) ?_
    have J_45 : ∀ (H : Heap) (locs : List Loc) (ls : Array Slot), d_isTaken_J45 S → f_isTaken_J45 S = r0 → Rep g ad A s S H locs → lv_has ls 2 [] → W p l e (headSpec (wt2 yX14_isTaken cX14_isTaken 2 (some .boolean)) ({ frames := 0, cells := 0, slots := 0, locals := 0 })).room s m ([.int x0, .int x1] : List Value).toArray below meth c H locs 0 0 (MQ below (va_Qi (fun (r : Int32) (_ : Unit) => r = f_isTaken S x0 x1 ∧ (r = 0 ∨ r = 1)) (fun (_ : Unit) (t : State) => qE g ad A S t) A) ([.int x0, .int x1] : List Value).toArray s 0 0 A) (F0 m 45 ls []) := by
      intro H locs ls hd hf hR hl
      unfold d_isTaken_J45 at hd
      unfold f_isTaken_J45 at hf
      refine lv_iconst (v := 1) hx hb dX14_isTaken_45 (by decide) ?_
      refine lv_goto (tgt := 50) hx hb dX14_isTaken_46 (by decide) ?_
      exact W.zret (v := 1) hx hb hr (nz (Or.inr rfl)) (fun t9 ht9 hW9 => ⟨⟨_, (), rfl, ⟨hf.trans hf0.symm, (Or.inr rfl)⟩, ⟨by rw [ht9]; exact hR.P, hR.D⟩⟩, hR.sS.F ht9⟩) hR.sS.2.2 dX14_isTaken_50
    refine lv_icmp_eq (tgt := 45) hx hb dX14_isTaken_20 (by decide) (fun c2 => ?_) (fun c2 => ?_)
    · rw [if_pos (k_eq rfl (by decide) c2)] at hf
      (try rw [if_pos (k_eq rfl (by decide) c2)] at hd)
      exact J_45 _ _ ls hd hf  hR (lv_sub hl [] rfl)
    · rw [if_neg (k_ne rfl (by decide) c2)] at hf
      (try rw [if_neg (k_ne rfl (by decide) c2)] at hd)
      refine lv_iload_n hx hb dX14_isTaken_23 rfl (lv_at hl 1 rfl) ?_
      refine lv_iconst (v := 4) hx hb dX14_isTaken_24 (by decide) ?_
      have J_34 : ∀ (v34_0 : Int32) (v34_1 : Int32) (H : Heap) (locs : List Loc) (ls : Array Slot), d_isTaken_J34 S v34_0 v34_1 → f_isTaken_J34 S v34_0 v34_1 = r0 → Rep g ad A s S H locs → lv_has ls 2 [(0, .int v34_0), (1, .int v34_1)] → W p l e (headSpec (wt2 yX14_isTaken cX14_isTaken 2 (some .boolean)) ({ frames := 0, cells := 0, slots := 0, locals := 0 })).room s m ([.int x0, .int x1] : List Value).toArray below meth c H locs 0 0 (MQ below (va_Qi (fun (r : Int32) (_ : Unit) => r = f_isTaken S x0 x1 ∧ (r = 0 ∨ r = 1)) (fun (_ : Unit) (t : State) => qE g ad A S t) A) ([.int x0, .int x1] : List Value).toArray s 0 0 A) (F0 m 34 ls []) := by
        intro v34_0 v34_1 H locs ls hd hf hR hl
        unfold d_isTaken_J34 at hd
        unfold f_isTaken_J34 at hf
        refine lv_iload_n hx hb dX14_isTaken_34 rfl (lv_at hl 1 rfl) ?_
        refine lv_iconst (v := 5) hx hb dX14_isTaken_35 (by decide) ?_
        have J_49 : ∀ (H : Heap) (locs : List Loc) (ls : Array Slot), d_isTaken_J49 S → f_isTaken_J49 S = r0 → Rep g ad A s S H locs → lv_has ls 2 [] → W p l e (headSpec (wt2 yX14_isTaken cX14_isTaken 2 (some .boolean)) ({ frames := 0, cells := 0, slots := 0, locals := 0 })).room s m ([.int x0, .int x1] : List Value).toArray below meth c H locs 0 0 (MQ below (va_Qi (fun (r : Int32) (_ : Unit) => r = f_isTaken S x0 x1 ∧ (r = 0 ∨ r = 1)) (fun (_ : Unit) (t : State) => qE g ad A S t) A) ([.int x0, .int x1] : List Value).toArray s 0 0 A) (F0 m 49 ls []) := by
          intro H locs ls hd hf hR hl
          unfold d_isTaken_J49 at hd
          unfold f_isTaken_J49 at hf
          refine lv_iconst (v := 0) hx hb dX14_isTaken_49 (by decide) ?_
          exact W.zret (v := 0) hx hb hr (nz (Or.inl rfl)) (fun t9 ht9 hW9 => ⟨⟨_, (), rfl, ⟨hf.trans hf0.symm, (Or.inl rfl)⟩, ⟨by rw [ht9]; exact hR.P, hR.D⟩⟩, hR.sS.F ht9⟩) hR.sS.2.2 dX14_isTaken_50
        refine lv_icmp_ne (tgt := 49) hx hb dX14_isTaken_36 (by decide) (fun c3 => ?_) (fun c3 => ?_)
        · rw [if_neg (k_ne rfl (by decide) c3)] at hf
          (try rw [if_neg (k_ne rfl (by decide) c3)] at hd)
          exact J_49 _ _ ls hd hf  hR (lv_sub hl [] rfl)
        · rw [if_pos (k_eq rfl (by decide) c3)] at hf
          (try rw [if_pos (k_eq rfl (by decide) c3)] at hd)
          refine lv_iload_n hx hb dX14_isTaken_39 rfl (lv_at hl 0 rfl) ?_
          refine lv_bipush (v := 65) hx hb dX14_isTaken_40 (by decide) ?_
          refine lv_icmp_eq (tgt := 49) hx hb dX14_isTaken_42 (by decide) (fun c4 => ?_) (fun c4 => ?_)
          · rw [if_pos (k_eq rfl (by decide) c4)] at hf
            (try rw [if_pos (k_eq rfl (by decide) c4)] at hd)
            exact J_49 _ _ ls hd hf  hR (lv_sub hl [] rfl)
          · rw [if_neg (k_ne rfl (by decide) c4)] at hf
            (try rw [if_neg (k_ne rfl (by decide) c4)] at hd)
            exact J_45 _ _ ls hd hf  hR (lv_sub hl [] rfl)
      refine lv_icmp_ne (tgt := 34) hx hb dX14_isTaken_25 (by decide) (fun c5 => ?_) (fun c5 => ?_)
      · rw [if_neg (k_ne rfl (by decide) c5)] at hf
        (try rw [if_neg (k_ne rfl (by decide) c5)] at hd)
        exact J_34 x0 x1 _ _ ls hd hf  hR (lv_sub hl [0, 1] rfl)
      · rw [if_pos (k_eq rfl (by decide) c5)] at hf
        (try rw [if_pos (k_eq rfl (by decide) c5)] at hd)
        refine lv_iload_n hx hb dX14_isTaken_28 rfl (lv_at hl 0 rfl) ?_
        refine lv_bipush (v := 69) hx hb dX14_isTaken_29 (by decide) ?_
        refine lv_icmp_ne (tgt := 45) hx hb dX14_isTaken_31 (by decide) (fun c6 => ?_) (fun c6 => ?_)
        · rw [if_neg (k_ne rfl (by decide) c6)] at hf
          (try rw [if_neg (k_ne rfl (by decide) c6)] at hd)
          exact J_45 _ _ ls hd hf  hR (lv_sub hl [] rfl)
        · rw [if_pos (k_eq rfl (by decide) c6)] at hf
          (try rw [if_pos (k_eq rfl (by decide) c6)] at hd)
          exact J_34 x0 x1 _ _ ls hd hf  hR (lv_sub hl [0, 1] rfl)
  · rw [if_pos (k_eq rfl (by decide) c1)] at hf
    (try rw [if_pos (k_eq rfl (by decide) c1)] at hd)
    refine lv_iload_n hx hb dX14_isTaken_6 rfl (lv_at hl 1 rfl) ?_
    refine lv_iconst (v := 1) hx hb dX14_isTaken_7 (by decide) ?_
    refine lv_icmp_ne (tgt := 15) hx hb dX14_isTaken_8 (by decide) (fun c7 => ?_) (fun c7 => ?_)
    · rw [if_neg (k_ne rfl (by decide) c7)] at hf
      (try rw [if_neg (k_ne rfl (by decide) c7)] at hd)
      refine lv_iconst (v := 0) hx hb dX14_isTaken_15 (by decide) ?_
      exact W.zret (v := 0) hx hb hr (nz (Or.inl rfl)) (fun t9 ht9 hW9 => ⟨⟨_, (), rfl, ⟨hf.trans hf0.symm, (Or.inl rfl)⟩, ⟨by rw [ht9]; exact hR.P, hR.D⟩⟩, hR.sS.F ht9⟩) hR.sS.2.2 dX14_isTaken_16
    · rw [if_pos (k_eq rfl (by decide) c7)] at hf
      (try rw [if_pos (k_eq rfl (by decide) c7)] at hd)
      refine lv_iconst (v := 1) hx hb dX14_isTaken_11 (by decide) ?_
      refine lv_goto (tgt := 16) hx hb dX14_isTaken_12 (by decide) ?_
      exact W.zret (v := 1) hx hb hr (nz (Or.inr rfl)) (fun t9 ht9 hW9 => ⟨⟨_, (), rfl, ⟨hf.trans hf0.symm, (Or.inr rfl)⟩, ⟨by rw [ht9]; exact hR.P, hR.D⟩⟩, hR.sS.F ht9⟩) hR.sS.2.2 dX14_isTaken_16
def f_isMovable_J70 (S : MS) : Int32 := (1 : Int32)
def d_isMovable_J70 (S : MS) : Prop := True
def f_isMovable_J74 (S : MS) : Int32 := (0 : Int32)
def d_isMovable_J74 (S : MS) : Prop := True
def f_isMovable_J35 (S : MS) (t35_0 : Int32) (v35_1 : Int32) : Int32 := (if t35_0.toInt = 0 then (if (f_isOne S (f_tagAt S (1 : Int32))).toInt = 0 then f_isMovable_J74 S else (if (f_moved S v35_1).toInt = 1 then f_isMovable_J70 S else (if (f_isOne S (f_tagAt S (2 : Int32))).toInt = 0 then f_isMovable_J74 S else f_isMovable_J70 S))) else f_isMovable_J70 S)
def d_isMovable_J35 (S : MS) (t35_0 : Int32) (v35_1 : Int32) : Prop := (if t35_0.toInt = 0 then (d_tagAt S (1 : Int32) ∧ (d_isOne S (f_tagAt S (1 : Int32)) ∧ (if (f_isOne S (f_tagAt S (1 : Int32))).toInt = 0 then d_isMovable_J74 S else (d_moved S v35_1 ∧ (if (f_moved S v35_1).toInt = 1 then d_isMovable_J70 S else (d_tagAt S (2 : Int32) ∧ (d_isOne S (f_tagAt S (2 : Int32)) ∧ (if (f_isOne S (f_tagAt S (2 : Int32))).toInt = 0 then d_isMovable_J74 S else d_isMovable_J70 S)))))))) else d_isMovable_J70 S)
def f_isMovable_J34 (S : MS) (v34_1 : Int32) : Int32 := f_isMovable_J35 S 0 v34_1
def d_isMovable_J34 (S : MS) (v34_1 : Int32) : Prop := d_isMovable_J35 S 0 v34_1
def f_isMovable_J12 (S : MS) (v12_1 : Int32) : Int32 := (if (f_tagAt S (1 : Int32)).toInt = 3 then (if (f_tagAt S (2 : Int32)).toInt = 2 then f_isMovable_J35 S 1 v12_1 else f_isMovable_J34 S v12_1) else f_isMovable_J34 S v12_1)
def d_isMovable_J12 (S : MS) (v12_1 : Int32) : Prop := (d_tagAt S (1 : Int32) ∧ (if (f_tagAt S (1 : Int32)).toInt = 3 then (d_tagAt S (2 : Int32) ∧ (if (f_tagAt S (2 : Int32)).toInt = 2 then d_isMovable_J35 S 1 v12_1 else d_isMovable_J34 S v12_1)) else d_isMovable_J34 S v12_1))
def f_isMovable (S : MS) (x1 : Int32) : Int32 := (if x1.toInt = 88 then f_isMovable_J12 S x1 else (if x1.toInt = 92 then f_isMovable_J12 S x1 else f_isMovable_J34 S x1))
def d_isMovable (S : MS) (x1 : Int32) : Prop := (if x1.toInt = 88 then d_isMovable_J12 S x1 else (if x1.toInt = 92 then d_isMovable_J12 S x1 else d_isMovable_J34 S x1))
set_option maxHeartbeats 2000000 in
set_option maxRecDepth 100000 in
theorem r_isMovable (l : Launch) (g : Gr) (ad : Nat → Nat) (sz : Nat) (S : MS) (x1 : Int32) (hw : wfM S) (hd : d_isMovable S x1) : Met l yX14_isMovable (wt2 yX14_isMovable cX14_isMovable 3 (some .boolean)) ({ frames := 2, cells := 0, slots := 0, locals := 40 }) (va_Pc [.ref (ad 0), .int x1] (st_R g ad sz S)) (va_Qi (fun (r : Int32) (_ : Unit) => r = f_isMovable S x1 ∧ (r = 0 ∨ r = 1)) (fun (_ : Unit) (t : State) => qE g ad (va_A (Wd g ad S) sz) S t) (va_A (Wd g ad S) sz)) 0 0 (va_A (Wd g ad S) sz) := by
  refine Met.ofW (cc := cX14_isMovable) (maxL := 3) (ret := (some .boolean)) (by decide) rfl ?_
  intro p e s m args below meth c s₁ B hml hv
  obtain ⟨rfl, hsz, hP, hK, hD0, hex, hE⟩ := hv
  have hx := B.exec
  have hb := B.bytes
  have hr := B.returns
  have hts0 := atoms_spec (ws := wt2 yX14_isMovable cX14_isMovable 3 (some .boolean)) B.pre
  have hts : ∀ w ∈ tb2, w.before _ s = true := fun w h => hts0 w (List.mem_cons_of_mem _ h)
  have hown : s.vm.findClass RX14 = some m.cls := findClass_of_methodNamed B.named
  subst hsz
  have hD := hD0.self (sz := s.heap.size)
  generalize hAe : va_A (Wd g ad S) s.heap.size = A at hD hE ⊢
  have hA : ∀ q : Nat, s.heap.size ≤ q → A q := fun q h => by rw [← hAe]; exact Or.inr h
  have hR : Rep g ad A s S s.heap [] := ⟨hK, hP, hD, va_S.rf, hw⟩
  clear hK hP hD hD0
  have hl := lv_entry ([.ref (ad 0), .int x1]) (n := 3) (Nat.le_of_ble_eq_true rfl)
  rw [lg_entry_eq]
  generalize (lg_sl ([.ref (ad 0), .int x1]) ++ List.replicate (3 - (lg_sl ([.ref (ad 0), .int x1])).length) Slot.unset).toArray = ls at hl ⊢
  have hl : lv_has ls 3 [(0, .ref (ad 0)), (1, .int x1)] := hl
  obtain ⟨r0, hf⟩ : ∃ r0, f_isMovable S x1 = r0 := ⟨_, rfl⟩
  have hf0 := hf
  unfold f_isMovable at hf
  unfold d_isMovable at hd
  refine lv_iload_n hx hb dX14_isMovable_0 rfl (lv_at hl 1 rfl) ?_
  refine lv_bipush (v := 88) hx hb dX14_isMovable_1 (by decide) ?_
  have J_35 : ∀ (t35_0 : Int32) (v35_1 : Int32) (H : Heap) (locs : List Loc) (ls : Array Slot), d_isMovable_J35 S t35_0 v35_1 → f_isMovable_J35 S t35_0 v35_1 = r0 → (t35_0 = 0 ∨ t35_0 = 1) → Rep g ad A s S H locs → lv_has ls 3 [(0, .ref (ad 0)), (1, .int v35_1)] → W p l e (headSpec (wt2 yX14_isMovable cX14_isMovable 3 (some .boolean)) ({ frames := 2, cells := 0, slots := 0, locals := 40 })).room s m ([.ref (ad 0), .int x1] : List Value).toArray below meth c H locs 0 0 (MQ below (va_Qi (fun (r : Int32) (_ : Unit) => r = f_isMovable S x1 ∧ (r = 0 ∨ r = 1)) (fun (_ : Unit) (t : State) => qE g ad A S t) A) ([.ref (ad 0), .int x1] : List Value).toArray s 0 0 A) (F0 m 35 ls [.int t35_0]) := by
    intro t35_0 v35_1 H locs ls hd hf hz_t35_0 hR hl
    unfold d_isMovable_J35 at hd
    unfold f_isMovable_J35 at hf
    refine lv_istore_n (lv' := [(2, .int t35_0), (0, .ref (ad 0)), (1, .int v35_1)]) hx hb dX14_isMovable_35 rfl hl (by decide) rfl (fun ls hl => ?_)
    refine lv_iload_n hx hb dX14_isMovable_36 rfl (lv_at hl 0 rfl) ?_
    have J_70 : ∀ (H : Heap) (locs : List Loc) (ls : Array Slot), d_isMovable_J70 S → f_isMovable_J70 S = r0 → Rep g ad A s S H locs → lv_has ls 3 [] → W p l e (headSpec (wt2 yX14_isMovable cX14_isMovable 3 (some .boolean)) ({ frames := 2, cells := 0, slots := 0, locals := 40 })).room s m ([.ref (ad 0), .int x1] : List Value).toArray below meth c H locs 0 0 (MQ below (va_Qi (fun (r : Int32) (_ : Unit) => r = f_isMovable S x1 ∧ (r = 0 ∨ r = 1)) (fun (_ : Unit) (t : State) => qE g ad A S t) A) ([.ref (ad 0), .int x1] : List Value).toArray s 0 0 A) (F0 m 70 ls []) := by
      intro H locs ls hd hf hR hl
      unfold d_isMovable_J70 at hd
      unfold f_isMovable_J70 at hf
      refine lv_iconst (v := 1) hx hb dX14_isMovable_70 (by decide) ?_
      refine lv_goto (tgt := 75) hx hb dX14_isMovable_71 (by decide) ?_
      exact W.zret (v := 1) hx hb hr (nz (Or.inr rfl)) (fun t9 ht9 hW9 => ⟨⟨_, (), rfl, ⟨hf.trans hf0.symm, (Or.inr rfl)⟩, ⟨by rw [ht9]; exact hR.P, hR.D⟩⟩, hR.sS.F ht9⟩) hR.sS.2.2 dX14_isMovable_75
    refine lv_if_ne (tgt := 70) hx hb dX14_isMovable_37 (by decide) (fun c1 => ?_) (fun c1 => ?_)
    · rw [if_neg (k_ne rfl (by decide) c1)] at hf
      (try rw [if_neg (k_ne rfl (by decide) c1)] at hd)
      exact J_70 _ _ ls hd hf  hR (lv_sub hl [] rfl)
    · rw [if_pos (k_eq rfl (by decide) c1)] at hf
      (try rw [if_pos (k_eq rfl (by decide) c1)] at hd)
      refine lv_aload_n hx hb dX14_isMovable_40 rfl (lv_at hl 1 rfl) ?_
      refine lv_iconst (v := 1) hx hb dX14_isMovable_41 (by decide) ?_
      obtain ⟨hv2, hd⟩ := hd
      have hFc := rfree hR hA
      refine va_calli (va_runV (As := [.int 1]) (rest := []) ⟨hx, hb, hml, hown, hts⟩ (r_tagAt l g ad H.size S (1 : Int32) hR.w  hv2) (cwV 1 hts (gd2_V kx_640 kx_641 kx_642 kx_177 kx_643) rfl rfl rfl (by decide +kernel) ⟨Nat.le_of_ble_eq_true rfl, Nat.le_of_ble_eq_true rfl⟩) ⟨rblind, va_recv hR.K hR.P (ci := 13) (q0 := 0) rfl (hR.at14 hR.w.1), fun U hU hW9 => rmk hU hW9 hR hex hE hFc⟩ rfl rfl hl.1 rfl (lv_room (Nat.le_of_ble_eq_true rfl)) dX14_isMovable_42 ⟨Nat.le_of_ble_eq_true rfl, Nat.le_of_ble_eq_true rfl⟩) hR.sS (fun q _ h => hFc q h) hFc (fun r3 u9 t9 H1 locs ht9 hvm9 hw9 hB9 hz9 hk9 hS => ?_)
      have hR : Rep g ad A s S H1 locs := hR.call ht9 hB9 hR.w hS hFc
      obtain rfl : r3 = (f_tagAt S (1 : Int32)) := hw9
      clear hB9 hz9 hk9 hvm9 ht9 hS
      generalize H1 = H at hR ⊢
      obtain ⟨hv5, hd⟩ := hd
      have hFc := rfree hR hA
      refine va_calli (va_runS (As := [.int (f_tagAt S (1 : Int32))]) (rest := []) ⟨hx, hb, hml, hown, hts⟩ (r_isOne l g ad H.size S (f_tagAt S (1 : Int32)) hR.w  hv5) (va_cwS 1 hts (gd2_S kx_486 kx_487 kx_177 kx_488) rfl rfl rfl (by decide +kernel) ⟨Nat.le_of_ble_eq_true rfl, Nat.le_of_ble_eq_true rfl⟩) ⟨rblind, fun U hU hW9 => rmk hU hW9 hR hex hE hFc⟩ rfl rfl hl.1 rfl (lv_room (Nat.le_of_ble_eq_true rfl)) dX14_isMovable_45 ⟨Nat.le_of_ble_eq_true rfl, Nat.le_of_ble_eq_true rfl⟩) hR.sS (fun q _ h => hFc q h) hFc (fun r6 u9 t9 H1 locs ht9 hvm9 hw9 hB9 hz9 hk9 hS => ?_)
      have hR : Rep g ad A s S H1 locs := hR.call ht9 hB9 hR.w hS hFc
      obtain ⟨rfl, hz_r6⟩ := hw9
      clear hB9 hz9 hk9 hvm9 ht9 hS
      generalize H1 = H at hR ⊢
      have J_74 : ∀ (H : Heap) (locs : List Loc) (ls : Array Slot), d_isMovable_J74 S → f_isMovable_J74 S = r0 → Rep g ad A s S H locs → lv_has ls 3 [] → W p l e (headSpec (wt2 yX14_isMovable cX14_isMovable 3 (some .boolean)) ({ frames := 2, cells := 0, slots := 0, locals := 40 })).room s m ([.ref (ad 0), .int x1] : List Value).toArray below meth c H locs 0 0 (MQ below (va_Qi (fun (r : Int32) (_ : Unit) => r = f_isMovable S x1 ∧ (r = 0 ∨ r = 1)) (fun (_ : Unit) (t : State) => qE g ad A S t) A) ([.ref (ad 0), .int x1] : List Value).toArray s 0 0 A) (F0 m 74 ls []) := by
        intro H locs ls hd hf hR hl
        unfold d_isMovable_J74 at hd
        unfold f_isMovable_J74 at hf
        refine lv_iconst (v := 0) hx hb dX14_isMovable_74 (by decide) ?_
        exact W.zret (v := 0) hx hb hr (nz (Or.inl rfl)) (fun t9 ht9 hW9 => ⟨⟨_, (), rfl, ⟨hf.trans hf0.symm, (Or.inl rfl)⟩, ⟨by rw [ht9]; exact hR.P, hR.D⟩⟩, hR.sS.F ht9⟩) hR.sS.2.2 dX14_isMovable_75
      refine lv_if_eq (tgt := 74) hx hb dX14_isMovable_48 (by decide) (fun c8 => ?_) (fun c8 => ?_)
      · rw [if_pos (k_eq rfl (by decide) c8)] at hf
        (try rw [if_pos (k_eq rfl (by decide) c8)] at hd)
        exact J_74 _ _ ls hd hf  hR (lv_sub hl [] rfl)
      · rw [if_neg (k_ne rfl (by decide) c8)] at hf
        (try rw [if_neg (k_ne rfl (by decide) c8)] at hd)
        refine lv_iload_n hx hb dX14_isMovable_51 rfl (lv_at hl 2 rfl) ?_
        obtain ⟨hv9, hd⟩ := hd
        have hFc := rfree hR hA
        refine va_calli (va_runS (As := [.int v35_1]) (rest := []) ⟨hx, hb, hml, hown, hts⟩ (r_moved l g ad H.size S v35_1 hR.w  hv9) (va_cwS 1 hts (gd2_S kx_400 kx_401 kx_177 kx_402) rfl rfl rfl (by decide +kernel) ⟨Nat.le_of_ble_eq_true rfl, Nat.le_of_ble_eq_true rfl⟩) ⟨rblind, fun U hU hW9 => rmk hU hW9 hR hex hE hFc⟩ rfl rfl hl.1 rfl (lv_room (Nat.le_of_ble_eq_true rfl)) dX14_isMovable_52 ⟨Nat.le_of_ble_eq_true rfl, Nat.le_of_ble_eq_true rfl⟩) hR.sS (fun q _ h => hFc q h) hFc (fun r10 u9 t9 H1 locs ht9 hvm9 hw9 hB9 hz9 hk9 hS => ?_)
        have hR : Rep g ad A s S H1 locs := hR.call ht9 hB9 hR.w hS hFc
        obtain rfl : r10 = (f_moved S v35_1) := hw9
        clear hB9 hz9 hk9 hvm9 ht9 hS
        generalize H1 = H at hR ⊢
        refine lv_iconst (v := 1) hx hb dX14_isMovable_55 (by decide) ?_
        refine lv_icmp_eq (tgt := 70) hx hb dX14_isMovable_56 (by decide) (fun c12 => ?_) (fun c12 => ?_)
        · rw [if_pos (k_eq rfl (by decide) c12)] at hf
          (try rw [if_pos (k_eq rfl (by decide) c12)] at hd)
          exact J_70 _ _ ls hd hf  hR (lv_sub hl [] rfl)
        · rw [if_neg (k_ne rfl (by decide) c12)] at hf
          (try rw [if_neg (k_ne rfl (by decide) c12)] at hd)
          refine lv_aload_n hx hb dX14_isMovable_59 rfl (lv_at hl 1 rfl) ?_
          refine lv_iconst (v := 2) hx hb dX14_isMovable_60 (by decide) ?_
          obtain ⟨hv13, hd⟩ := hd
          have hFc := rfree hR hA
          refine va_calli (va_runV (As := [.int 2]) (rest := []) ⟨hx, hb, hml, hown, hts⟩ (r_tagAt l g ad H.size S (2 : Int32) hR.w  hv13) (cwV 1 hts (gd2_V kx_640 kx_641 kx_642 kx_177 kx_643) rfl rfl rfl (by decide +kernel) ⟨Nat.le_of_ble_eq_true rfl, Nat.le_of_ble_eq_true rfl⟩) ⟨rblind, va_recv hR.K hR.P (ci := 13) (q0 := 0) rfl (hR.at14 hR.w.1), fun U hU hW9 => rmk hU hW9 hR hex hE hFc⟩ rfl rfl hl.1 rfl (lv_room (Nat.le_of_ble_eq_true rfl)) dX14_isMovable_61 ⟨Nat.le_of_ble_eq_true rfl, Nat.le_of_ble_eq_true rfl⟩) hR.sS (fun q _ h => hFc q h) hFc (fun r14 u9 t9 H1 locs ht9 hvm9 hw9 hB9 hz9 hk9 hS => ?_)
          have hR : Rep g ad A s S H1 locs := hR.call ht9 hB9 hR.w hS hFc
          obtain rfl : r14 = (f_tagAt S (2 : Int32)) := hw9
          clear hB9 hz9 hk9 hvm9 ht9 hS
          generalize H1 = H at hR ⊢
          obtain ⟨hv16, hd⟩ := hd
          have hFc := rfree hR hA
          refine va_calli (va_runS (As := [.int (f_tagAt S (2 : Int32))]) (rest := []) ⟨hx, hb, hml, hown, hts⟩ (r_isOne l g ad H.size S (f_tagAt S (2 : Int32)) hR.w  hv16) (va_cwS 1 hts (gd2_S kx_486 kx_487 kx_177 kx_488) rfl rfl rfl (by decide +kernel) ⟨Nat.le_of_ble_eq_true rfl, Nat.le_of_ble_eq_true rfl⟩) ⟨rblind, fun U hU hW9 => rmk hU hW9 hR hex hE hFc⟩ rfl rfl hl.1 rfl (lv_room (Nat.le_of_ble_eq_true rfl)) dX14_isMovable_64 ⟨Nat.le_of_ble_eq_true rfl, Nat.le_of_ble_eq_true rfl⟩) hR.sS (fun q _ h => hFc q h) hFc (fun r17 u9 t9 H1 locs ht9 hvm9 hw9 hB9 hz9 hk9 hS => ?_)
          have hR : Rep g ad A s S H1 locs := hR.call ht9 hB9 hR.w hS hFc
          obtain ⟨rfl, hz_r17⟩ := hw9
          clear hB9 hz9 hk9 hvm9 ht9 hS
          generalize H1 = H at hR ⊢
          refine lv_if_eq (tgt := 74) hx hb dX14_isMovable_67 (by decide) (fun c19 => ?_) (fun c19 => ?_)
          · rw [if_pos (k_eq rfl (by decide) c19)] at hf
            (try rw [if_pos (k_eq rfl (by decide) c19)] at hd)
            exact J_74 _ _ ls hd hf  hR (lv_sub hl [] rfl)
          · rw [if_neg (k_ne rfl (by decide) c19)] at hf
            (try rw [if_neg (k_ne rfl (by decide) c19)] at hd)
            exact J_70 _ _ ls hd hf  hR (lv_sub hl [] rfl)
  have J_34 : ∀ (v34_1 : Int32) (H : Heap) (locs : List Loc) (ls : Array Slot), d_isMovable_J34 S v34_1 → f_isMovable_J34 S v34_1 = r0 → Rep g ad A s S H locs → lv_has ls 3 [(0, .ref (ad 0)), (1, .int v34_1)] → W p l e (headSpec (wt2 yX14_isMovable cX14_isMovable 3 (some .boolean)) ({ frames := 2, cells := 0, slots := 0, locals := 40 })).room s m ([.ref (ad 0), .int x1] : List Value).toArray below meth c H locs 0 0 (MQ below (va_Qi (fun (r : Int32) (_ : Unit) => r = f_isMovable S x1 ∧ (r = 0 ∨ r = 1)) (fun (_ : Unit) (t : State) => qE g ad A S t) A) ([.ref (ad 0), .int x1] : List Value).toArray s 0 0 A) (F0 m 34 ls []) := by
    intro v34_1 H locs ls hd hf hR hl
    unfold d_isMovable_J34 at hd
    unfold f_isMovable_J34 at hf
    refine lv_iconst (v := 0) hx hb dX14_isMovable_34 (by decide) ?_
    exact J_35 0 v34_1 _ _ ls hd hf (Or.inl rfl) hR (lv_sub hl [0, 1] rfl)
  have J_12 : ∀ (v12_1 : Int32) (H : Heap) (locs : List Loc) (ls : Array Slot), d_isMovable_J12 S v12_1 → f_isMovable_J12 S v12_1 = r0 → Rep g ad A s S H locs → lv_has ls 3 [(0, .ref (ad 0)), (1, .int v12_1)] → W p l e (headSpec (wt2 yX14_isMovable cX14_isMovable 3 (some .boolean)) ({ frames := 2, cells := 0, slots := 0, locals := 40 })).room s m ([.ref (ad 0), .int x1] : List Value).toArray below meth c H locs 0 0 (MQ below (va_Qi (fun (r : Int32) (_ : Unit) => r = f_isMovable S x1 ∧ (r = 0 ∨ r = 1)) (fun (_ : Unit) (t : State) => qE g ad A S t) A) ([.ref (ad 0), .int x1] : List Value).toArray s 0 0 A) (F0 m 12 ls []) := by
    intro v12_1 H locs ls hd hf hR hl
    unfold d_isMovable_J12 at hd
    unfold f_isMovable_J12 at hf
    refine lv_aload_n hx hb dX14_isMovable_12 rfl (lv_at hl 0 rfl) ?_
    refine lv_iconst (v := 1) hx hb dX14_isMovable_13 (by decide) ?_
    obtain ⟨hv20, hd⟩ := hd
    have hFc := rfree hR hA
    refine va_calli (va_runV (As := [.int 1]) (rest := []) ⟨hx, hb, hml, hown, hts⟩ (r_tagAt l g ad H.size S (1 : Int32) hR.w  hv20) (cwV 1 hts (gd2_V kx_640 kx_641 kx_642 kx_177 kx_643) rfl rfl rfl (by decide +kernel) ⟨Nat.le_of_ble_eq_true rfl, Nat.le_of_ble_eq_true rfl⟩) ⟨rblind, va_recv hR.K hR.P (ci := 13) (q0 := 0) rfl (hR.at14 hR.w.1), fun U hU hW9 => rmk hU hW9 hR hex hE hFc⟩ rfl rfl hl.1 rfl (lv_room (Nat.le_of_ble_eq_true rfl)) dX14_isMovable_14 ⟨Nat.le_of_ble_eq_true rfl, Nat.le_of_ble_eq_true rfl⟩) hR.sS (fun q _ h => hFc q h) hFc (fun r21 u9 t9 H1 locs ht9 hvm9 hw9 hB9 hz9 hk9 hS => ?_)
    have hR : Rep g ad A s S H1 locs := hR.call ht9 hB9 hR.w hS hFc
    obtain rfl : r21 = (f_tagAt S (1 : Int32)) := hw9
    clear hB9 hz9 hk9 hvm9 ht9 hS
    generalize H1 = H at hR ⊢
    refine lv_iconst (v := 3) hx hb dX14_isMovable_17 (by decide) ?_
    refine lv_icmp_ne (tgt := 34) hx hb dX14_isMovable_18 (by decide) (fun c23 => ?_) (fun c23 => ?_)
    · rw [if_neg (k_ne rfl (by decide) c23)] at hf
      (try rw [if_neg (k_ne rfl (by decide) c23)] at hd)
      exact J_34 v12_1 _ _ ls hd hf  hR (lv_sub hl [0, 1] rfl)
    · rw [if_pos (k_eq rfl (by decide) c23)] at hf
      (try rw [if_pos (k_eq rfl (by decide) c23)] at hd)
      refine lv_aload_n hx hb dX14_isMovable_21 rfl (lv_at hl 0 rfl) ?_
      refine lv_iconst (v := 2) hx hb dX14_isMovable_22 (by decide) ?_
      obtain ⟨hv24, hd⟩ := hd
      have hFc := rfree hR hA
      refine va_calli (va_runV (As := [.int 2]) (rest := []) ⟨hx, hb, hml, hown, hts⟩ (r_tagAt l g ad H.size S (2 : Int32) hR.w  hv24) (cwV 1 hts (gd2_V kx_640 kx_641 kx_642 kx_177 kx_643) rfl rfl rfl (by decide +kernel) ⟨Nat.le_of_ble_eq_true rfl, Nat.le_of_ble_eq_true rfl⟩) ⟨rblind, va_recv hR.K hR.P (ci := 13) (q0 := 0) rfl (hR.at14 hR.w.1), fun U hU hW9 => rmk hU hW9 hR hex hE hFc⟩ rfl rfl hl.1 rfl (lv_room (Nat.le_of_ble_eq_true rfl)) dX14_isMovable_23 ⟨Nat.le_of_ble_eq_true rfl, Nat.le_of_ble_eq_true rfl⟩) hR.sS (fun q _ h => hFc q h) hFc (fun r25 u9 t9 H1 locs ht9 hvm9 hw9 hB9 hz9 hk9 hS => ?_)
      have hR : Rep g ad A s S H1 locs := hR.call ht9 hB9 hR.w hS hFc
      obtain rfl : r25 = (f_tagAt S (2 : Int32)) := hw9
      clear hB9 hz9 hk9 hvm9 ht9 hS
      generalize H1 = H at hR ⊢
      refine lv_iconst (v := 2) hx hb dX14_isMovable_26 (by decide) ?_
      refine lv_icmp_ne (tgt := 34) hx hb dX14_isMovable_27 (by decide) (fun c27 => ?_) (fun c27 => ?_)
      · rw [if_neg (k_ne rfl (by decide) c27)] at hf
        (try rw [if_neg (k_ne rfl (by decide) c27)] at hd)
        exact J_34 v12_1 _ _ ls hd hf  hR (lv_sub hl [0, 1] rfl)
      · rw [if_pos (k_eq rfl (by decide) c27)] at hf
        (try rw [if_pos (k_eq rfl (by decide) c27)] at hd)
        refine lv_iconst (v := 1) hx hb dX14_isMovable_30 (by decide) ?_
        refine lv_goto (tgt := 35) hx hb dX14_isMovable_31 (by decide) ?_
        exact J_35 1 v12_1 _ _ ls hd hf (Or.inr rfl) hR (lv_sub hl [0, 1] rfl)
  refine lv_icmp_eq (tgt := 12) hx hb dX14_isMovable_3 (by decide) (fun c28 => ?_) (fun c28 => ?_)
  · rw [if_pos (k_eq rfl (by decide) c28)] at hf
    (try rw [if_pos (k_eq rfl (by decide) c28)] at hd)
    exact J_12 x1 _ _ ls hd hf  hR (lv_sub hl [0, 1] rfl)
  · rw [if_neg (k_ne rfl (by decide) c28)] at hf
    (try rw [if_neg (k_ne rfl (by decide) c28)] at hd)
    refine lv_iload_n hx hb dX14_isMovable_6 rfl (lv_at hl 1 rfl) ?_
    refine lv_bipush (v := 92) hx hb dX14_isMovable_7 (by decide) ?_
    refine lv_icmp_ne (tgt := 34) hx hb dX14_isMovable_9 (by decide) (fun c29 => ?_) (fun c29 => ?_)
    · rw [if_neg (k_ne rfl (by decide) c29)] at hf
      (try rw [if_neg (k_ne rfl (by decide) c29)] at hd)
      exact J_34 x1 _ _ ls hd hf  hR (lv_sub hl [0, 1] rfl)
    · rw [if_pos (k_eq rfl (by decide) c29)] at hf
      (try rw [if_pos (k_eq rfl (by decide) c29)] at hd)
      exact J_12 x1 _ _ ls hd hf  hR (lv_sub hl [0, 1] rfl)
def w_chosen_L2 (Q : Int32 → MS → Prop) : Nat → MS → Int32 → Int32 → Int32 → Prop
  | 0, _, _, _, _ => False
  | n2 + 1, U2, v2_1, v2_2, v2_3 => (d_second U2 v2_1 ∧ (((f_second U2 v2_1).toInt ≤ v2_3.toInt → ((qR U2 0 49 = some (qO U2 0 49)) ∧ (d_first U2 v2_1 ∧ (((0 : Int) ≤ (f_first U2 v2_1).toInt ∧ (f_first U2 v2_1).toInt < (qN U2 (qO U2 0 49) : Int)) ∧ Q (qI U2 (qO U2 0 49) (((f_first U2 v2_1).toInt).toNat)) U2)))) ∧ (¬ (f_second U2 v2_1).toInt ≤ v2_3.toInt → ((qR U2 0 49 = some (qO U2 0 49)) ∧ (d_first U2 v2_1 ∧ (((0 : Int) ≤ (((f_first U2 v2_1) + (1 : Int32)) + ((2 : Int32) * v2_3)).toInt ∧ (((f_first U2 v2_1) + (1 : Int32)) + ((2 : Int32) * v2_3)).toInt < (qN U2 (qO U2 0 49) : Int)) ∧ (((qI U2 (qO U2 0 49) (((((f_first U2 v2_1) + (1 : Int32)) + ((2 : Int32) * v2_3)).toInt).toNat)).toInt = v2_2.toInt → ((qR U2 0 49 = some (qO U2 0 49)) ∧ (d_first U2 v2_1 ∧ (((0 : Int) ≤ (((f_first U2 v2_1) + (2 : Int32)) + ((2 : Int32) * v2_3)).toInt ∧ (((f_first U2 v2_1) + (2 : Int32)) + ((2 : Int32) * v2_3)).toInt < (qN U2 (qO U2 0 49) : Int)) ∧ Q (qI U2 (qO U2 0 49) (((((f_first U2 v2_1) + (2 : Int32)) + ((2 : Int32) * v2_3)).toInt).toNat)) U2)))) ∧ (¬ (qI U2 (qO U2 0 49) (((((f_first U2 v2_1) + (1 : Int32)) + ((2 : Int32) * v2_3)).toInt).toNat)).toInt = v2_2.toInt → (∀ a23 : Int32, a23 = (v2_3 + Int32.ofInt 1) → (w_chosen_L2 Q n2) U2 v2_1 v2_2 a23)))))))))
def w_chosen (S : MS) (x1 : Int32) (x2 : Int32) (Q : Int32 → MS → Prop) : Prop := (∃ n, w_chosen_L2 Q n S x1 x2 0)
set_option maxHeartbeats 2000000 in
set_option maxRecDepth 100000 in
theorem r_chosen (l : Launch) (g : Gr) (ad : Nat → Nat) (sz : Nat) (S : MS) (x1 : Int32) (x2 : Int32) (hw : wfM S) (Q : Int32 → MS → Prop) (h : w_chosen S x1 x2 Q) : Met l yX14_chosen (wt2 yX14_chosen cX14_chosen 4 (some .int)) ({ frames := 1, cells := 0, slots := 0, locals := 21 }) (va_Pc [.ref (ad 0), .int x1, .int x2] (st_R g ad sz S)) (va_Qi (fun (r : Int32) (u : MS) => Q r u ∧ wfM u ∧ shy S u) (fun (u : MS) (t : State) => qE g ad (va_A (Wd g ad S) sz) u t) (va_A (Wd g ad S) sz)) 0 0 (va_A (Wd g ad S) sz) := by
  refine Met.ofW (cc := cX14_chosen) (maxL := 4) (ret := (some .int)) (by decide) rfl ?_
  intro p e s m args below meth c s₁ B hml hv
  obtain ⟨rfl, hsz, hP, hK, hD0, hex, hE⟩ := hv
  have hx := B.exec
  have hb := B.bytes
  have hr := B.returns
  have hts0 := atoms_spec (ws := wt2 yX14_chosen cX14_chosen 4 (some .int)) B.pre
  have hts : ∀ w ∈ tb2, w.before _ s = true := fun w h => hts0 w (List.mem_cons_of_mem _ h)
  have hown : s.vm.findClass RX14 = some m.cls := findClass_of_methodNamed B.named
  subst hsz
  have hD := hD0.self (sz := s.heap.size)
  generalize hAe : va_A (Wd g ad S) s.heap.size = A at hD hE ⊢
  have hA : ∀ q : Nat, s.heap.size ≤ q → A q := fun q h => by rw [← hAe]; exact Or.inr h
  have hR : Rep g ad A s S s.heap [] := ⟨hK, hP, hD, va_S.rf, hw⟩
  clear hK hP hD hD0
  have hl := lv_entry ([.ref (ad 0), .int x1, .int x2]) (n := 4) (Nat.le_of_ble_eq_true rfl)
  rw [lg_entry_eq]
  generalize (lg_sl ([.ref (ad 0), .int x1, .int x2]) ++ List.replicate (4 - (lg_sl ([.ref (ad 0), .int x1, .int x2])).length) Slot.unset).toArray = ls at hl ⊢
  have hl : lv_has ls 4 [(0, .ref (ad 0)), (1, .int x1), (2, .int x2)] := hl
  have hsh : shy S S := shy.rf
  unfold w_chosen at h
  refine lv_iconst (v := 0) hx hb dX14_chosen_0 (by decide) ?_
  refine lv_istore_n (lv' := [(3, .int 0), (0, .ref (ad 0)), (1, .int x1), (2, .int x2)]) hx hb dX14_chosen_1 rfl hl (by decide) rfl (fun ls hl => ?_)
  have J_2 : ∀ (n2 : Nat) (U2 : MS) (v2_1 : Int32) (v2_2 : Int32) (v2_3 : Int32) (H : Heap) (locs : List Loc) (ls : Array Slot), w_chosen_L2 Q n2 U2 v2_1 v2_2 v2_3 → shy S U2 → Rep g ad A s U2 H locs → lv_has ls 4 [(0, .ref (ad 0)), (1, .int v2_1), (2, .int v2_2), (3, .int v2_3)] → W p l e (headSpec (wt2 yX14_chosen cX14_chosen 4 (some .int)) ({ frames := 1, cells := 0, slots := 0, locals := 21 })).room s m ([.ref (ad 0), .int x1, .int x2] : List Value).toArray below meth c H locs 0 0 (MQ below (va_Qi (fun (r : Int32) (u : MS) => Q r u ∧ wfM u ∧ shy S u) (fun (u : MS) (t : State) => qE g ad A u t) A) ([.ref (ad 0), .int x1, .int x2] : List Value).toArray s 0 0 A) (F0 m 2 ls []) := by
    intro n2
    induction n2 with
    | zero => intro U2 v2_1 v2_2 v2_3 H locs ls h hsh hR hl; unfold w_chosen_L2 at h; exact h.elim
    | succ n2 ih_2 =>
      intro U2 v2_1 v2_2 v2_3 H locs ls h hsh hR hl
      unfold w_chosen_L2 at h
      refine lv_iload_n hx hb dX14_chosen_2 rfl (lv_at hl 3 rfl) ?_
      refine lv_aload_n hx hb dX14_chosen_3 rfl (lv_at hl 0 rfl) ?_
      refine lv_iload_n hx hb dX14_chosen_4 rfl (lv_at hl 1 rfl) ?_
      obtain ⟨hv1, h⟩ := h
      have hFc := rfree hR hA
      refine va_calli (va_runV (As := [.int v2_1]) (rest := [.int v2_3]) ⟨hx, hb, hml, hown, hts⟩ (r_second l g ad H.size U2 v2_1 hR.w  hv1) (cwV 1 hts (gd2_V kx_389 kx_390 kx_391 kx_177 kx_392) rfl rfl rfl (by decide +kernel) ⟨Nat.le_of_ble_eq_true rfl, Nat.le_of_ble_eq_true rfl⟩) ⟨rblind, va_recv hR.K hR.P (ci := 13) (q0 := 0) rfl (hR.at14 hR.w.1), fun U hU hW9 => rmk hU hW9 hR hex hE hFc⟩ rfl rfl hl.1 rfl (lv_room (Nat.le_of_ble_eq_true rfl)) dX14_chosen_5 ⟨Nat.le_of_ble_eq_true rfl, Nat.le_of_ble_eq_true rfl⟩) hR.sS (fun q _ h => hFc q h) hFc (fun r2 u9 t9 H1 locs ht9 hvm9 hw9 hB9 hz9 hk9 hS => ?_)
      have hR : Rep g ad A s U2 H1 locs := hR.call ht9 hB9 hR.w hS hFc
      obtain rfl : r2 = (f_second U2 v2_1) := hw9
      clear hB9 hz9 hk9 hvm9 ht9 hS
      generalize H1 = H at hR ⊢
      refine lv_icmp_ge (tgt := 54) hx hb dX14_chosen_8 (by decide) (fun c4 => ?_) (fun c4 => ?_)
      · replace h := h.1 (k_le rfl rfl c4)
        refine lv_aload_n hx hb dX14_chosen_54 rfl (lv_at hl 0 rfl) ?_
        obtain ⟨hv5, h⟩ := h
        have hT_b6 : qT U2 (qO U2 0 49) = 2 := hR.w.ref hv5 hR.w.1
        refine va_get (D := rD g) (ci := 13) (v := .ref (ad (qO U2 0 49))) (C := RX14) (T := TX14) (N := 143) hx hb hts in2X14 hown hR.K hR.P 0 (hR.at14 hR.w.1) rfl 49 (by decide) (hts _ kx_365) (fun _ h9 => h9) (congrArg (fun z => some (vf ad z)) hv5) dX14_chosen_55 ?_
        refine lv_aload_n hx hb dX14_chosen_58 rfl (lv_at hl 0 rfl) ?_
        refine lv_iload_n hx hb dX14_chosen_59 rfl (lv_at hl 1 rfl) ?_
        obtain ⟨hv7, h⟩ := h
        have hFc := rfree hR hA
        refine va_calli (va_runV (As := [.int v2_1]) (rest := [.ref (ad (qO U2 0 49))]) ⟨hx, hb, hml, hown, hts⟩ (r_first l g ad H.size U2 v2_1 hR.w  hv7) (cwV 1 hts (gd2_V kx_393 kx_394 kx_395 kx_177 kx_396) rfl rfl rfl (by decide +kernel) ⟨Nat.le_of_ble_eq_true rfl, Nat.le_of_ble_eq_true rfl⟩) ⟨rblind, va_recv hR.K hR.P (ci := 13) (q0 := 0) rfl (hR.at14 hR.w.1), fun U hU hW9 => rmk hU hW9 hR hex hE hFc⟩ rfl rfl hl.1 rfl (lv_room (Nat.le_of_ble_eq_true rfl)) dX14_chosen_60 ⟨Nat.le_of_ble_eq_true rfl, Nat.le_of_ble_eq_true rfl⟩) hR.sS (fun q _ h => hFc q h) hFc (fun r8 u9 t9 H1 locs ht9 hvm9 hw9 hB9 hz9 hk9 hS => ?_)
        have hR : Rep g ad A s U2 H1 locs := hR.call ht9 hB9 hR.w hS hFc
        obtain rfl : r8 = (f_first U2 v2_1) := hw9
        clear hB9 hz9 hk9 hvm9 ht9 hS
        generalize H1 = H at hR ⊢
        obtain ⟨hv10, h⟩ := h
        refine va_iald hx hb hR.K hR.P (qO U2 0 49) 1 (hR.atI hT_b6) rfl (k_ix (x := (f_first U2 v2_1)) (a := (f_first U2 v2_1).toInt) rfl hv10) dX14_chosen_63 ?_
        refine lv_topi (fun z11 ez11 => ?_)
        obtain rfl : z11 = (qI U2 (qO U2 0 49) (((f_first U2 v2_1).toInt).toNat)) := ez11
        exact W.iret (v := (qI U2 (qO U2 0 49) (((f_first U2 v2_1).toInt).toNat))) hx hb hr (fun t9 ht9 hW9 => ⟨⟨_, U2, rfl, ⟨h, hR.w, hsh⟩, ⟨by rw [ht9]; exact hR.P, hR.D⟩⟩, hR.sS.F ht9⟩) hR.sS.2.2 dX14_chosen_64
      · replace h := h.2 (k_nle rfl rfl c4)
        refine lv_aload_n hx hb dX14_chosen_11 rfl (lv_at hl 0 rfl) ?_
        obtain ⟨hv12, h⟩ := h
        have hT_b13 : qT U2 (qO U2 0 49) = 2 := hR.w.ref hv12 hR.w.1
        refine va_get (D := rD g) (ci := 13) (v := .ref (ad (qO U2 0 49))) (C := RX14) (T := TX14) (N := 143) hx hb hts in2X14 hown hR.K hR.P 0 (hR.at14 hR.w.1) rfl 49 (by decide) (hts _ kx_365) (fun _ h9 => h9) (congrArg (fun z => some (vf ad z)) hv12) dX14_chosen_12 ?_
        refine lv_aload_n hx hb dX14_chosen_15 rfl (lv_at hl 0 rfl) ?_
        refine lv_iload_n hx hb dX14_chosen_16 rfl (lv_at hl 1 rfl) ?_
        obtain ⟨hv14, h⟩ := h
        have hFc := rfree hR hA
        refine va_calli (va_runV (As := [.int v2_1]) (rest := [.ref (ad (qO U2 0 49))]) ⟨hx, hb, hml, hown, hts⟩ (r_first l g ad H.size U2 v2_1 hR.w  hv14) (cwV 1 hts (gd2_V kx_393 kx_394 kx_395 kx_177 kx_396) rfl rfl rfl (by decide +kernel) ⟨Nat.le_of_ble_eq_true rfl, Nat.le_of_ble_eq_true rfl⟩) ⟨rblind, va_recv hR.K hR.P (ci := 13) (q0 := 0) rfl (hR.at14 hR.w.1), fun U hU hW9 => rmk hU hW9 hR hex hE hFc⟩ rfl rfl hl.1 rfl (lv_room (Nat.le_of_ble_eq_true rfl)) dX14_chosen_17 ⟨Nat.le_of_ble_eq_true rfl, Nat.le_of_ble_eq_true rfl⟩) hR.sS (fun q _ h => hFc q h) hFc (fun r15 u9 t9 H1 locs ht9 hvm9 hw9 hB9 hz9 hk9 hS => ?_)
        have hR : Rep g ad A s U2 H1 locs := hR.call ht9 hB9 hR.w hS hFc
        obtain rfl : r15 = (f_first U2 v2_1) := hw9
        clear hB9 hz9 hk9 hvm9 ht9 hS
        generalize H1 = H at hR ⊢
        refine lv_iconst (v := 1) hx hb dX14_chosen_20 (by decide) ?_
        refine lv_iadd hx hb dX14_chosen_21 ?_
        refine lv_topi (fun z17 ez17 => ?_)
        obtain rfl : z17 = ((f_first U2 v2_1) + (1 : Int32)) := ez17
        refine lv_iconst (v := 2) hx hb dX14_chosen_22 (by decide) ?_
        refine lv_iload_n hx hb dX14_chosen_23 rfl (lv_at hl 3 rfl) ?_
        refine lv_imul hx hb dX14_chosen_24 ?_
        refine lv_topi (fun z18 ez18 => ?_)
        obtain rfl : z18 = ((2 : Int32) * v2_3) := ez18
        refine lv_iadd hx hb dX14_chosen_25 ?_
        refine lv_topi (fun z19 ez19 => ?_)
        obtain rfl : z19 = (((f_first U2 v2_1) + (1 : Int32)) + ((2 : Int32) * v2_3)) := ez19
        obtain ⟨hv20, h⟩ := h
        refine va_iald hx hb hR.K hR.P (qO U2 0 49) 1 (hR.atI hT_b13) rfl (k_ix (x := (((f_first U2 v2_1) + (1 : Int32)) + ((2 : Int32) * v2_3))) (a := (((f_first U2 v2_1) + (1 : Int32)) + ((2 : Int32) * v2_3)).toInt) rfl hv20) dX14_chosen_26 ?_
        refine lv_topi (fun z21 ez21 => ?_)
        obtain rfl : z21 = (qI U2 (qO U2 0 49) (((((f_first U2 v2_1) + (1 : Int32)) + ((2 : Int32) * v2_3)).toInt).toNat)) := ez21
        refine lv_iload_n hx hb dX14_chosen_27 rfl (lv_at hl 2 rfl) ?_
        refine lv_icmp_ne (tgt := 48) hx hb dX14_chosen_28 (by decide) (fun c22 => ?_) (fun c22 => ?_)
        · replace h := h.2 (k_ne rfl rfl c22)
          obtain ⟨a23, ea23⟩ : ∃ z, z = (v2_3 + Int32.ofInt 1) := ⟨_, rfl⟩
          replace h := h a23 ea23
          refine lv_iinc (v := a23) (lv' := [(3, .int a23), (0, .ref (ad 0)), (1, .int v2_1), (2, .int v2_2)]) hx hb dX14_chosen_48 hl (k := 3) rfl ea23.symm (by decide) rfl (fun ls hl => ?_)
          refine lv_goto (tgt := 2) hx hb dX14_chosen_51 (by decide) ?_
          exact ih_2 U2 v2_1 v2_2 a23 _ _ ls h  hsh hR (lv_sub hl [1, 2, 3, 0] rfl)
        · replace h := h.1 (k_eq rfl rfl c22)
          refine lv_aload_n hx hb dX14_chosen_31 rfl (lv_at hl 0 rfl) ?_
          obtain ⟨hv24, h⟩ := h
          have hT_b25 : qT U2 (qO U2 0 49) = 2 := hR.w.ref hv24 hR.w.1
          refine va_get (D := rD g) (ci := 13) (v := .ref (ad (qO U2 0 49))) (C := RX14) (T := TX14) (N := 143) hx hb hts in2X14 hown hR.K hR.P 0 (hR.at14 hR.w.1) rfl 49 (by decide) (hts _ kx_365) (fun _ h9 => h9) (congrArg (fun z => some (vf ad z)) hv24) dX14_chosen_32 ?_
          refine lv_aload_n hx hb dX14_chosen_35 rfl (lv_at hl 0 rfl) ?_
          refine lv_iload_n hx hb dX14_chosen_36 rfl (lv_at hl 1 rfl) ?_
          obtain ⟨hv26, h⟩ := h
          have hFc := rfree hR hA
          refine va_calli (va_runV (As := [.int v2_1]) (rest := [.ref (ad (qO U2 0 49))]) ⟨hx, hb, hml, hown, hts⟩ (r_first l g ad H.size U2 v2_1 hR.w  hv26) (cwV 1 hts (gd2_V kx_393 kx_394 kx_395 kx_177 kx_396) rfl rfl rfl (by decide +kernel) ⟨Nat.le_of_ble_eq_true rfl, Nat.le_of_ble_eq_true rfl⟩) ⟨rblind, va_recv hR.K hR.P (ci := 13) (q0 := 0) rfl (hR.at14 hR.w.1), fun U hU hW9 => rmk hU hW9 hR hex hE hFc⟩ rfl rfl hl.1 rfl (lv_room (Nat.le_of_ble_eq_true rfl)) dX14_chosen_37 ⟨Nat.le_of_ble_eq_true rfl, Nat.le_of_ble_eq_true rfl⟩) hR.sS (fun q _ h => hFc q h) hFc (fun r27 u9 t9 H1 locs ht9 hvm9 hw9 hB9 hz9 hk9 hS => ?_)
          have hR : Rep g ad A s U2 H1 locs := hR.call ht9 hB9 hR.w hS hFc
          obtain rfl : r27 = (f_first U2 v2_1) := hw9
          clear hB9 hz9 hk9 hvm9 ht9 hS
          generalize H1 = H at hR ⊢
          refine lv_iconst (v := 2) hx hb dX14_chosen_40 (by decide) ?_
          refine lv_iadd hx hb dX14_chosen_41 ?_
          refine lv_topi (fun z29 ez29 => ?_)
          obtain rfl : z29 = ((f_first U2 v2_1) + (2 : Int32)) := ez29
          refine lv_iconst (v := 2) hx hb dX14_chosen_42 (by decide) ?_
          refine lv_iload_n hx hb dX14_chosen_43 rfl (lv_at hl 3 rfl) ?_
          refine lv_imul hx hb dX14_chosen_44 ?_
          refine lv_topi (fun z30 ez30 => ?_)
          obtain rfl : z30 = ((2 : Int32) * v2_3) := ez30
          refine lv_iadd hx hb dX14_chosen_45 ?_
          refine lv_topi (fun z31 ez31 => ?_)
          obtain rfl : z31 = (((f_first U2 v2_1) + (2 : Int32)) + ((2 : Int32) * v2_3)) := ez31
          obtain ⟨hv32, h⟩ := h
          refine va_iald hx hb hR.K hR.P (qO U2 0 49) 1 (hR.atI hT_b25) rfl (k_ix (x := (((f_first U2 v2_1) + (2 : Int32)) + ((2 : Int32) * v2_3))) (a := (((f_first U2 v2_1) + (2 : Int32)) + ((2 : Int32) * v2_3)).toInt) rfl hv32) dX14_chosen_46 ?_
          refine lv_topi (fun z33 ez33 => ?_)
          obtain rfl : z33 = (qI U2 (qO U2 0 49) (((((f_first U2 v2_1) + (2 : Int32)) + ((2 : Int32) * v2_3)).toInt).toNat)) := ez33
          exact W.iret (v := (qI U2 (qO U2 0 49) (((((f_first U2 v2_1) + (2 : Int32)) + ((2 : Int32) * v2_3)).toInt).toNat))) hx hb hr (fun t9 ht9 hW9 => ⟨⟨_, U2, rfl, ⟨h, hR.w, hsh⟩, ⟨by rw [ht9]; exact hR.P, hR.D⟩⟩, hR.sS.F ht9⟩) hR.sS.2.2 dX14_chosen_47
  obtain ⟨n9, h⟩ := h
  exact J_2 n9 S x1 x2 0 _ _ ls h  hsh hR (lv_sub hl [1, 2, 3, 0] rfl)
def f_isSo_J87 (S : MS) (t87_0 : Int32) (t87_1 : Int32) : Int32 := (if t87_1.toInt = t87_0.toInt then (1 : Int32) else (0 : Int32))
def d_isSo_J87 (S : MS) (t87_0 : Int32) (t87_1 : Int32) : Prop := True
def f_isSo_J77 (S : MS) (t77_0 : Int32) (v77_0 : Int32) : Int32 := (if v77_0.toInt = 4 then f_isSo_J87 S 1 t77_0 else f_isSo_J87 S 0 t77_0)
def d_isSo_J77 (S : MS) (t77_0 : Int32) (v77_0 : Int32) : Prop := (if v77_0.toInt = 4 then d_isSo_J87 S 1 t77_0 else d_isSo_J87 S 0 t77_0)
def f_isSo_J58 (S : MS) (t58_0 : Int32) (t58_1 : Int32) : Int32 := (if t58_1.toInt = t58_0.toInt then (1 : Int32) else (0 : Int32))
def d_isSo_J58 (S : MS) (t58_0 : Int32) (t58_1 : Int32) : Prop := True
def f_isSo_J48 (S : MS) (t48_0 : Int32) (v48_0 : Int32) : Int32 := (if v48_0.toInt = 2 then f_isSo_J58 S 1 t48_0 else f_isSo_J58 S 0 t48_0)
def d_isSo_J48 (S : MS) (t48_0 : Int32) (v48_0 : Int32) : Prop := (if v48_0.toInt = 2 then d_isSo_J58 S 1 t48_0 else d_isSo_J58 S 0 t48_0)
def f_isSo_J24 (S : MS) (t24_0 : Int32) (t24_1 : Int32) : Int32 := (if t24_1.toInt = t24_0.toInt then (1 : Int32) else (0 : Int32))
def d_isSo_J24 (S : MS) (t24_0 : Int32) (t24_1 : Int32) : Prop := True
def f_isSo_J15 (S : MS) (t15_0 : Int32) (v15_0 : Int32) : Int32 := (if v15_0.toInt = 0 then f_isSo_J24 S 1 t15_0 else f_isSo_J24 S 0 t15_0)
def d_isSo_J15 (S : MS) (t15_0 : Int32) (v15_0 : Int32) : Prop := (if v15_0.toInt = 0 then d_isSo_J24 S 1 t15_0 else d_isSo_J24 S 0 t15_0)
def f_isSo (S : MS) (x0 : Int32) (x1 : Int32) (x2 : Int32) : Int32 := (if 2 ≤ x0.toInt then (if 4 ≤ x0.toInt then (if x1.toInt ≤ x2.toInt then f_isSo_J77 S 0 x0 else f_isSo_J77 S 1 x0) else (if x2.toInt ≤ x1.toInt then f_isSo_J48 S 0 x0 else f_isSo_J48 S 1 x0)) else (if x1.toInt = x2.toInt then f_isSo_J15 S 1 x0 else f_isSo_J15 S 0 x0))
def d_isSo (S : MS) (x0 : Int32) (x1 : Int32) (x2 : Int32) : Prop := (if 2 ≤ x0.toInt then (if 4 ≤ x0.toInt then (if x1.toInt ≤ x2.toInt then d_isSo_J77 S 0 x0 else d_isSo_J77 S 1 x0) else (if x2.toInt ≤ x1.toInt then d_isSo_J48 S 0 x0 else d_isSo_J48 S 1 x0)) else (if x1.toInt = x2.toInt then d_isSo_J15 S 1 x0 else d_isSo_J15 S 0 x0))
set_option maxHeartbeats 2000000 in
set_option maxRecDepth 100000 in
theorem r_isSo (l : Launch) (g : Gr) (ad : Nat → Nat) (sz : Nat) (S : MS) (x0 : Int32) (x1 : Int32) (x2 : Int32) (hw : wfM S) (hd : d_isSo S x0 x1 x2) : Met l yX14_isSo (wt2 yX14_isSo cX14_isSo 3 (some .boolean)) ({ frames := 0, cells := 0, slots := 0, locals := 0 }) (va_Pc [.int x0, .int x1, .int x2] (st_R g ad sz S)) (va_Qi (fun (r : Int32) (_ : Unit) => r = f_isSo S x0 x1 x2 ∧ (r = 0 ∨ r = 1)) (fun (_ : Unit) (t : State) => qE g ad (va_A (Wd g ad S) sz) S t) (va_A (Wd g ad S) sz)) 0 0 (va_A (Wd g ad S) sz) := by
  refine Met.ofW (cc := cX14_isSo) (maxL := 3) (ret := (some .boolean)) (by decide) rfl ?_
  intro p e s m args below meth c s₁ B hml hv
  obtain ⟨rfl, hsz, hP, hK, hD0, hex, hE⟩ := hv
  have hx := B.exec
  have hb := B.bytes
  have hr := B.returns
  have hts0 := atoms_spec (ws := wt2 yX14_isSo cX14_isSo 3 (some .boolean)) B.pre
  have hts : ∀ w ∈ tb2, w.before _ s = true := fun w h => hts0 w (List.mem_cons_of_mem _ h)
  have hown : s.vm.findClass RX14 = some m.cls := findClass_of_methodNamed B.named
  subst hsz
  have hD := hD0.self (sz := s.heap.size)
  generalize hAe : va_A (Wd g ad S) s.heap.size = A at hD hE ⊢
  have hA : ∀ q : Nat, s.heap.size ≤ q → A q := fun q h => by rw [← hAe]; exact Or.inr h
  have hR : Rep g ad A s S s.heap [] := ⟨hK, hP, hD, va_S.rf, hw⟩
  clear hK hP hD hD0
  have hl := lv_entry ([.int x0, .int x1, .int x2]) (n := 3) (Nat.le_of_ble_eq_true rfl)
  rw [lg_entry_eq]
  generalize (lg_sl ([.int x0, .int x1, .int x2]) ++ List.replicate (3 - (lg_sl ([.int x0, .int x1, .int x2])).length) Slot.unset).toArray = ls at hl ⊢
  have hl : lv_has ls 3 [(0, .int x0), (1, .int x1), (2, .int x2)] := hl
  obtain ⟨r0, hf⟩ : ∃ r0, f_isSo S x0 x1 x2 = r0 := ⟨_, rfl⟩
  have hf0 := hf
  unfold f_isSo at hf
  unfold d_isSo at hd
  refine lv_iload_n hx hb dX14_isSo_0 rfl (lv_at hl 0 rfl) ?_
  refine lv_iconst (v := 2) hx hb dX14_isSo_1 (by decide) ?_
  refine lv_icmp_ge (tgt := 33) hx hb dX14_isSo_2 (by decide) (fun c1 => ?_) (fun c1 => ?_)
  · rw [if_pos (k_le (by decide) rfl c1)] at hf
    (try rw [if_pos (k_le (by decide) rfl c1)] at hd)
    refine lv_iload_n hx hb dX14_isSo_33 rfl (lv_at hl 0 rfl) ?_
    refine lv_iconst (v := 4) hx hb dX14_isSo_34 (by decide) ?_
    refine lv_icmp_ge (tgt := 67) hx hb dX14_isSo_35 (by decide) (fun c2 => ?_) (fun c2 => ?_)
    · rw [if_pos (k_le (by decide) rfl c2)] at hf
      (try rw [if_pos (k_le (by decide) rfl c2)] at hd)
      refine lv_iload_n hx hb dX14_isSo_67 rfl (lv_at hl 1 rfl) ?_
      refine lv_iload_n hx hb dX14_isSo_68 rfl (lv_at hl 2 rfl) ?_
      have J_77 : ∀ (t77_0 : Int32) (v77_0 : Int32) (H : Heap) (locs : List Loc) (ls : Array Slot), d_isSo_J77 S t77_0 v77_0 → f_isSo_J77 S t77_0 v77_0 = r0 → (t77_0 = 0 ∨ t77_0 = 1) → Rep g ad A s S H locs → lv_has ls 3 [(0, .int v77_0)] → W p l e (headSpec (wt2 yX14_isSo cX14_isSo 3 (some .boolean)) ({ frames := 0, cells := 0, slots := 0, locals := 0 })).room s m ([.int x0, .int x1, .int x2] : List Value).toArray below meth c H locs 0 0 (MQ below (va_Qi (fun (r : Int32) (_ : Unit) => r = f_isSo S x0 x1 x2 ∧ (r = 0 ∨ r = 1)) (fun (_ : Unit) (t : State) => qE g ad A S t) A) ([.int x0, .int x1, .int x2] : List Value).toArray s 0 0 A) (F0 m 77 ls [.int t77_0]) := by
        intro t77_0 v77_0 H locs ls hd hf hz_t77_0 hR hl
        unfold d_isSo_J77 at hd
        unfold f_isSo_J77 at hf
        refine lv_iload_n hx hb dX14_isSo_77 rfl (lv_at hl 0 rfl) ?_
        refine lv_iconst (v := 4) hx hb dX14_isSo_78 (by decide) ?_
        have J_87 : ∀ (t87_0 : Int32) (t87_1 : Int32) (H : Heap) (locs : List Loc) (ls : Array Slot), d_isSo_J87 S t87_0 t87_1 → f_isSo_J87 S t87_0 t87_1 = r0 → (t87_0 = 0 ∨ t87_0 = 1) → Rep g ad A s S H locs → lv_has ls 3 [] → W p l e (headSpec (wt2 yX14_isSo cX14_isSo 3 (some .boolean)) ({ frames := 0, cells := 0, slots := 0, locals := 0 })).room s m ([.int x0, .int x1, .int x2] : List Value).toArray below meth c H locs 0 0 (MQ below (va_Qi (fun (r : Int32) (_ : Unit) => r = f_isSo S x0 x1 x2 ∧ (r = 0 ∨ r = 1)) (fun (_ : Unit) (t : State) => qE g ad A S t) A) ([.int x0, .int x1, .int x2] : List Value).toArray s 0 0 A) (F0 m 87 ls [.int t87_0, .int t87_1]) := by
          intro t87_0 t87_1 H locs ls hd hf hz_t87_0 hR hl
          unfold d_isSo_J87 at hd
          unfold f_isSo_J87 at hf
          refine lv_icmp_ne (tgt := 94) hx hb dX14_isSo_87 (by decide) (fun c3 => ?_) (fun c3 => ?_)
          · rw [if_neg (k_ne rfl rfl c3)] at hf
            (try rw [if_neg (k_ne rfl rfl c3)] at hd)
            refine lv_iconst (v := 0) hx hb dX14_isSo_94 (by decide) ?_
            exact W.zret (v := 0) hx hb hr (nz (Or.inl rfl)) (fun t9 ht9 hW9 => ⟨⟨_, (), rfl, ⟨hf.trans hf0.symm, (Or.inl rfl)⟩, ⟨by rw [ht9]; exact hR.P, hR.D⟩⟩, hR.sS.F ht9⟩) hR.sS.2.2 dX14_isSo_95
          · rw [if_pos (k_eq rfl rfl c3)] at hf
            (try rw [if_pos (k_eq rfl rfl c3)] at hd)
            refine lv_iconst (v := 1) hx hb dX14_isSo_90 (by decide) ?_
            refine lv_goto (tgt := 95) hx hb dX14_isSo_91 (by decide) ?_
            exact W.zret (v := 1) hx hb hr (nz (Or.inr rfl)) (fun t9 ht9 hW9 => ⟨⟨_, (), rfl, ⟨hf.trans hf0.symm, (Or.inr rfl)⟩, ⟨by rw [ht9]; exact hR.P, hR.D⟩⟩, hR.sS.F ht9⟩) hR.sS.2.2 dX14_isSo_95
        refine lv_icmp_ne (tgt := 86) hx hb dX14_isSo_79 (by decide) (fun c4 => ?_) (fun c4 => ?_)
        · rw [if_neg (k_ne rfl (by decide) c4)] at hf
          (try rw [if_neg (k_ne rfl (by decide) c4)] at hd)
          refine lv_iconst (v := 0) hx hb dX14_isSo_86 (by decide) ?_
          exact J_87 0 t77_0 _ _ ls hd hf (Or.inl rfl) hR (lv_sub hl [] rfl)
        · rw [if_pos (k_eq rfl (by decide) c4)] at hf
          (try rw [if_pos (k_eq rfl (by decide) c4)] at hd)
          refine lv_iconst (v := 1) hx hb dX14_isSo_82 (by decide) ?_
          refine lv_goto (tgt := 87) hx hb dX14_isSo_83 (by decide) ?_
          exact J_87 1 t77_0 _ _ ls hd hf (Or.inr rfl) hR (lv_sub hl [] rfl)
      refine lv_icmp_le (tgt := 76) hx hb dX14_isSo_69 (by decide) (fun c5 => ?_) (fun c5 => ?_)
      · rw [if_pos (k_le rfl rfl c5)] at hf
        (try rw [if_pos (k_le rfl rfl c5)] at hd)
        refine lv_iconst (v := 0) hx hb dX14_isSo_76 (by decide) ?_
        exact J_77 0 x0 _ _ ls hd hf (Or.inl rfl) hR (lv_sub hl [0] rfl)
      · rw [if_neg (k_nle rfl rfl c5)] at hf
        (try rw [if_neg (k_nle rfl rfl c5)] at hd)
        refine lv_iconst (v := 1) hx hb dX14_isSo_72 (by decide) ?_
        refine lv_goto (tgt := 77) hx hb dX14_isSo_73 (by decide) ?_
        exact J_77 1 x0 _ _ ls hd hf (Or.inr rfl) hR (lv_sub hl [0] rfl)
    · rw [if_neg (k_nle (by decide) rfl c2)] at hf
      (try rw [if_neg (k_nle (by decide) rfl c2)] at hd)
      refine lv_iload_n hx hb dX14_isSo_38 rfl (lv_at hl 1 rfl) ?_
      refine lv_iload_n hx hb dX14_isSo_39 rfl (lv_at hl 2 rfl) ?_
      have J_48 : ∀ (t48_0 : Int32) (v48_0 : Int32) (H : Heap) (locs : List Loc) (ls : Array Slot), d_isSo_J48 S t48_0 v48_0 → f_isSo_J48 S t48_0 v48_0 = r0 → (t48_0 = 0 ∨ t48_0 = 1) → Rep g ad A s S H locs → lv_has ls 3 [(0, .int v48_0)] → W p l e (headSpec (wt2 yX14_isSo cX14_isSo 3 (some .boolean)) ({ frames := 0, cells := 0, slots := 0, locals := 0 })).room s m ([.int x0, .int x1, .int x2] : List Value).toArray below meth c H locs 0 0 (MQ below (va_Qi (fun (r : Int32) (_ : Unit) => r = f_isSo S x0 x1 x2 ∧ (r = 0 ∨ r = 1)) (fun (_ : Unit) (t : State) => qE g ad A S t) A) ([.int x0, .int x1, .int x2] : List Value).toArray s 0 0 A) (F0 m 48 ls [.int t48_0]) := by
        intro t48_0 v48_0 H locs ls hd hf hz_t48_0 hR hl
        unfold d_isSo_J48 at hd
        unfold f_isSo_J48 at hf
        refine lv_iload_n hx hb dX14_isSo_48 rfl (lv_at hl 0 rfl) ?_
        refine lv_iconst (v := 2) hx hb dX14_isSo_49 (by decide) ?_
        have J_58 : ∀ (t58_0 : Int32) (t58_1 : Int32) (H : Heap) (locs : List Loc) (ls : Array Slot), d_isSo_J58 S t58_0 t58_1 → f_isSo_J58 S t58_0 t58_1 = r0 → (t58_0 = 0 ∨ t58_0 = 1) → Rep g ad A s S H locs → lv_has ls 3 [] → W p l e (headSpec (wt2 yX14_isSo cX14_isSo 3 (some .boolean)) ({ frames := 0, cells := 0, slots := 0, locals := 0 })).room s m ([.int x0, .int x1, .int x2] : List Value).toArray below meth c H locs 0 0 (MQ below (va_Qi (fun (r : Int32) (_ : Unit) => r = f_isSo S x0 x1 x2 ∧ (r = 0 ∨ r = 1)) (fun (_ : Unit) (t : State) => qE g ad A S t) A) ([.int x0, .int x1, .int x2] : List Value).toArray s 0 0 A) (F0 m 58 ls [.int t58_0, .int t58_1]) := by
          intro t58_0 t58_1 H locs ls hd hf hz_t58_0 hR hl
          unfold d_isSo_J58 at hd
          unfold f_isSo_J58 at hf
          refine lv_icmp_ne (tgt := 65) hx hb dX14_isSo_58 (by decide) (fun c6 => ?_) (fun c6 => ?_)
          · rw [if_neg (k_ne rfl rfl c6)] at hf
            (try rw [if_neg (k_ne rfl rfl c6)] at hd)
            refine lv_iconst (v := 0) hx hb dX14_isSo_65 (by decide) ?_
            exact W.zret (v := 0) hx hb hr (nz (Or.inl rfl)) (fun t9 ht9 hW9 => ⟨⟨_, (), rfl, ⟨hf.trans hf0.symm, (Or.inl rfl)⟩, ⟨by rw [ht9]; exact hR.P, hR.D⟩⟩, hR.sS.F ht9⟩) hR.sS.2.2 dX14_isSo_66
          · rw [if_pos (k_eq rfl rfl c6)] at hf
            (try rw [if_pos (k_eq rfl rfl c6)] at hd)
            refine lv_iconst (v := 1) hx hb dX14_isSo_61 (by decide) ?_
            refine lv_goto (tgt := 66) hx hb dX14_isSo_62 (by decide) ?_
            exact W.zret (v := 1) hx hb hr (nz (Or.inr rfl)) (fun t9 ht9 hW9 => ⟨⟨_, (), rfl, ⟨hf.trans hf0.symm, (Or.inr rfl)⟩, ⟨by rw [ht9]; exact hR.P, hR.D⟩⟩, hR.sS.F ht9⟩) hR.sS.2.2 dX14_isSo_66
        refine lv_icmp_ne (tgt := 57) hx hb dX14_isSo_50 (by decide) (fun c7 => ?_) (fun c7 => ?_)
        · rw [if_neg (k_ne rfl (by decide) c7)] at hf
          (try rw [if_neg (k_ne rfl (by decide) c7)] at hd)
          refine lv_iconst (v := 0) hx hb dX14_isSo_57 (by decide) ?_
          exact J_58 0 t48_0 _ _ ls hd hf (Or.inl rfl) hR (lv_sub hl [] rfl)
        · rw [if_pos (k_eq rfl (by decide) c7)] at hf
          (try rw [if_pos (k_eq rfl (by decide) c7)] at hd)
          refine lv_iconst (v := 1) hx hb dX14_isSo_53 (by decide) ?_
          refine lv_goto (tgt := 58) hx hb dX14_isSo_54 (by decide) ?_
          exact J_58 1 t48_0 _ _ ls hd hf (Or.inr rfl) hR (lv_sub hl [] rfl)
      refine lv_icmp_ge (tgt := 47) hx hb dX14_isSo_40 (by decide) (fun c8 => ?_) (fun c8 => ?_)
      · rw [if_pos (k_le rfl rfl c8)] at hf
        (try rw [if_pos (k_le rfl rfl c8)] at hd)
        refine lv_iconst (v := 0) hx hb dX14_isSo_47 (by decide) ?_
        exact J_48 0 x0 _ _ ls hd hf (Or.inl rfl) hR (lv_sub hl [0] rfl)
      · rw [if_neg (k_nle rfl rfl c8)] at hf
        (try rw [if_neg (k_nle rfl rfl c8)] at hd)
        refine lv_iconst (v := 1) hx hb dX14_isSo_43 (by decide) ?_
        refine lv_goto (tgt := 48) hx hb dX14_isSo_44 (by decide) ?_
        exact J_48 1 x0 _ _ ls hd hf (Or.inr rfl) hR (lv_sub hl [0] rfl)
  · rw [if_neg (k_nle (by decide) rfl c1)] at hf
    (try rw [if_neg (k_nle (by decide) rfl c1)] at hd)
    refine lv_iload_n hx hb dX14_isSo_5 rfl (lv_at hl 1 rfl) ?_
    refine lv_iload_n hx hb dX14_isSo_6 rfl (lv_at hl 2 rfl) ?_
    have J_15 : ∀ (t15_0 : Int32) (v15_0 : Int32) (H : Heap) (locs : List Loc) (ls : Array Slot), d_isSo_J15 S t15_0 v15_0 → f_isSo_J15 S t15_0 v15_0 = r0 → (t15_0 = 0 ∨ t15_0 = 1) → Rep g ad A s S H locs → lv_has ls 3 [(0, .int v15_0)] → W p l e (headSpec (wt2 yX14_isSo cX14_isSo 3 (some .boolean)) ({ frames := 0, cells := 0, slots := 0, locals := 0 })).room s m ([.int x0, .int x1, .int x2] : List Value).toArray below meth c H locs 0 0 (MQ below (va_Qi (fun (r : Int32) (_ : Unit) => r = f_isSo S x0 x1 x2 ∧ (r = 0 ∨ r = 1)) (fun (_ : Unit) (t : State) => qE g ad A S t) A) ([.int x0, .int x1, .int x2] : List Value).toArray s 0 0 A) (F0 m 15 ls [.int t15_0]) := by
      intro t15_0 v15_0 H locs ls hd hf hz_t15_0 hR hl
      unfold d_isSo_J15 at hd
      unfold f_isSo_J15 at hf
      refine lv_iload_n hx hb dX14_isSo_15 rfl (lv_at hl 0 rfl) ?_
      have J_24 : ∀ (t24_0 : Int32) (t24_1 : Int32) (H : Heap) (locs : List Loc) (ls : Array Slot), d_isSo_J24 S t24_0 t24_1 → f_isSo_J24 S t24_0 t24_1 = r0 → (t24_0 = 0 ∨ t24_0 = 1) → Rep g ad A s S H locs → lv_has ls 3 [] → W p l e (headSpec (wt2 yX14_isSo cX14_isSo 3 (some .boolean)) ({ frames := 0, cells := 0, slots := 0, locals := 0 })).room s m ([.int x0, .int x1, .int x2] : List Value).toArray below meth c H locs 0 0 (MQ below (va_Qi (fun (r : Int32) (_ : Unit) => r = f_isSo S x0 x1 x2 ∧ (r = 0 ∨ r = 1)) (fun (_ : Unit) (t : State) => qE g ad A S t) A) ([.int x0, .int x1, .int x2] : List Value).toArray s 0 0 A) (F0 m 24 ls [.int t24_0, .int t24_1]) := by
        intro t24_0 t24_1 H locs ls hd hf hz_t24_0 hR hl
        unfold d_isSo_J24 at hd
        unfold f_isSo_J24 at hf
        refine lv_icmp_ne (tgt := 31) hx hb dX14_isSo_24 (by decide) (fun c9 => ?_) (fun c9 => ?_)
        · rw [if_neg (k_ne rfl rfl c9)] at hf
          (try rw [if_neg (k_ne rfl rfl c9)] at hd)
          refine lv_iconst (v := 0) hx hb dX14_isSo_31 (by decide) ?_
          exact W.zret (v := 0) hx hb hr (nz (Or.inl rfl)) (fun t9 ht9 hW9 => ⟨⟨_, (), rfl, ⟨hf.trans hf0.symm, (Or.inl rfl)⟩, ⟨by rw [ht9]; exact hR.P, hR.D⟩⟩, hR.sS.F ht9⟩) hR.sS.2.2 dX14_isSo_32
        · rw [if_pos (k_eq rfl rfl c9)] at hf
          (try rw [if_pos (k_eq rfl rfl c9)] at hd)
          refine lv_iconst (v := 1) hx hb dX14_isSo_27 (by decide) ?_
          refine lv_goto (tgt := 32) hx hb dX14_isSo_28 (by decide) ?_
          exact W.zret (v := 1) hx hb hr (nz (Or.inr rfl)) (fun t9 ht9 hW9 => ⟨⟨_, (), rfl, ⟨hf.trans hf0.symm, (Or.inr rfl)⟩, ⟨by rw [ht9]; exact hR.P, hR.D⟩⟩, hR.sS.F ht9⟩) hR.sS.2.2 dX14_isSo_32
      refine lv_if_ne (tgt := 23) hx hb dX14_isSo_16 (by decide) (fun c10 => ?_) (fun c10 => ?_)
      · rw [if_neg (k_ne rfl (by decide) c10)] at hf
        (try rw [if_neg (k_ne rfl (by decide) c10)] at hd)
        refine lv_iconst (v := 0) hx hb dX14_isSo_23 (by decide) ?_
        exact J_24 0 t15_0 _ _ ls hd hf (Or.inl rfl) hR (lv_sub hl [] rfl)
      · rw [if_pos (k_eq rfl (by decide) c10)] at hf
        (try rw [if_pos (k_eq rfl (by decide) c10)] at hd)
        refine lv_iconst (v := 1) hx hb dX14_isSo_19 (by decide) ?_
        refine lv_goto (tgt := 24) hx hb dX14_isSo_20 (by decide) ?_
        exact J_24 1 t15_0 _ _ ls hd hf (Or.inr rfl) hR (lv_sub hl [] rfl)
    refine lv_icmp_ne (tgt := 14) hx hb dX14_isSo_7 (by decide) (fun c11 => ?_) (fun c11 => ?_)
    · rw [if_neg (k_ne rfl rfl c11)] at hf
      (try rw [if_neg (k_ne rfl rfl c11)] at hd)
      refine lv_iconst (v := 0) hx hb dX14_isSo_14 (by decide) ?_
      exact J_15 0 x0 _ _ ls hd hf (Or.inl rfl) hR (lv_sub hl [0] rfl)
    · rw [if_pos (k_eq rfl rfl c11)] at hf
      (try rw [if_pos (k_eq rfl rfl c11)] at hd)
      refine lv_iconst (v := 1) hx hb dX14_isSo_10 (by decide) ?_
      refine lv_goto (tgt := 15) hx hb dX14_isSo_11 (by decide) ?_
      exact J_15 1 x0 _ _ ls hd hf (Or.inr rfl) hR (lv_sub hl [0] rfl)
def f_intWork (S : MS) (x0 : Int32) (x1 : Int32) (x2 : Int32) : Int32 := (if x0.toInt = 96 then (x1 + x2) else (if x0.toInt = 97 then (x1 ^^^ x2) else (if x0.toInt = 98 then (x1 ^^^ x2) else (if x0.toInt = 99 then (x1 ^^^ x2) else (if x0.toInt = 100 then (x1 - x2) else (if x0.toInt = 101 then (x1 ^^^ x2) else (if x0.toInt = 102 then (x1 ^^^ x2) else (if x0.toInt = 103 then (x1 ^^^ x2) else (if x0.toInt = 104 then (x1 * x2) else (if x0.toInt = 105 then (x1 ^^^ x2) else (if x0.toInt = 106 then (x1 ^^^ x2) else (if x0.toInt = 107 then (x1 ^^^ x2) else (if x0.toInt = 108 then (if x2.toInt = (-1) then (-x1) else (x1 / x2)) else (if x0.toInt = 109 then (x1 ^^^ x2) else (if x0.toInt = 110 then (x1 ^^^ x2) else (if x0.toInt = 111 then (x1 ^^^ x2) else (if x0.toInt = 112 then (if x2.toInt = (-1) then (0 : Int32) else (x1 - x1 / x2 * x2)) else (if x0.toInt = 113 then (x1 ^^^ x2) else (if x0.toInt = 114 then (x1 ^^^ x2) else (if x0.toInt = 115 then (x1 ^^^ x2) else (if x0.toInt = 116 then (x1 ^^^ x2) else (if x0.toInt = 117 then (x1 ^^^ x2) else (if x0.toInt = 118 then (x1 ^^^ x2) else (if x0.toInt = 119 then (x1 ^^^ x2) else (if x0.toInt = 120 then (x1 <<< ((x2 &&& (31 : Int32)) &&& 31)) else (if x0.toInt = 121 then (x1 ^^^ x2) else (if x0.toInt = 122 then (x1 >>> ((x2 &&& (31 : Int32)) &&& 31)) else (if x0.toInt = 123 then (x1 ^^^ x2) else (if x0.toInt = 124 then ((x1.toUInt32 >>> ((x2 &&& (31 : Int32)).toUInt32 &&& Int32.toUInt32 31)).toInt32) else (if x0.toInt = 125 then (x1 ^^^ x2) else (if x0.toInt = 126 then (x1 &&& x2) else (if x0.toInt = 127 then (x1 ^^^ x2) else (if x0.toInt = 128 then (x1 ||| x2) else (x1 ^^^ x2))))))))))))))))))))))))))))))))))
def d_intWork (S : MS) (x0 : Int32) (x1 : Int32) (x2 : Int32) : Prop := (if x0.toInt = 96 then True else (if x0.toInt = 97 then True else (if x0.toInt = 98 then True else (if x0.toInt = 99 then True else (if x0.toInt = 100 then True else (if x0.toInt = 101 then True else (if x0.toInt = 102 then True else (if x0.toInt = 103 then True else (if x0.toInt = 104 then True else (if x0.toInt = 105 then True else (if x0.toInt = 106 then True else (if x0.toInt = 107 then True else (if x0.toInt = 108 then (if x2.toInt = (-1) then True else ((x2.toInt ≠ 0) ∧ True)) else (if x0.toInt = 109 then True else (if x0.toInt = 110 then True else (if x0.toInt = 111 then True else (if x0.toInt = 112 then (if x2.toInt = (-1) then True else ((x2.toInt ≠ 0) ∧ True)) else True)))))))))))))))))
set_option maxHeartbeats 2000000 in
set_option maxRecDepth 100000 in
theorem r_intWork (l : Launch) (g : Gr) (ad : Nat → Nat) (sz : Nat) (S : MS) (x0 : Int32) (x1 : Int32) (x2 : Int32) (hw : wfM S) (hd : d_intWork S x0 x1 x2) : Met l yX14_intWork (wt2 yX14_intWork cX14_intWork 3 (some .int)) ({ frames := 0, cells := 0, slots := 0, locals := 0 }) (va_Pc [.int x0, .int x1, .int x2] (st_R g ad sz S)) (va_Qi (fun (r : Int32) (_ : Unit) => r = f_intWork S x0 x1 x2) (fun (_ : Unit) (t : State) => qE g ad (va_A (Wd g ad S) sz) S t) (va_A (Wd g ad S) sz)) 0 0 (va_A (Wd g ad S) sz) := by
  refine Met.ofW (cc := cX14_intWork) (maxL := 3) (ret := (some .int)) (by decide) rfl ?_
  intro p e s m args below meth c s₁ B hml hv
  obtain ⟨rfl, hsz, hP, hK, hD0, hex, hE⟩ := hv
  have hx := B.exec
  have hb := B.bytes
  have hr := B.returns
  have hts0 := atoms_spec (ws := wt2 yX14_intWork cX14_intWork 3 (some .int)) B.pre
  have hts : ∀ w ∈ tb2, w.before _ s = true := fun w h => hts0 w (List.mem_cons_of_mem _ h)
  have hown : s.vm.findClass RX14 = some m.cls := findClass_of_methodNamed B.named
  subst hsz
  have hD := hD0.self (sz := s.heap.size)
  generalize hAe : va_A (Wd g ad S) s.heap.size = A at hD hE ⊢
  have hA : ∀ q : Nat, s.heap.size ≤ q → A q := fun q h => by rw [← hAe]; exact Or.inr h
  have hR : Rep g ad A s S s.heap [] := ⟨hK, hP, hD, va_S.rf, hw⟩
  clear hK hP hD hD0
  have hl := lv_entry ([.int x0, .int x1, .int x2]) (n := 3) (Nat.le_of_ble_eq_true rfl)
  rw [lg_entry_eq]
  generalize (lg_sl ([.int x0, .int x1, .int x2]) ++ List.replicate (3 - (lg_sl ([.int x0, .int x1, .int x2])).length) Slot.unset).toArray = ls at hl ⊢
  have hl : lv_has ls 3 [(0, .int x0), (1, .int x1), (2, .int x2)] := hl
  obtain ⟨r0, hf⟩ : ∃ r0, f_intWork S x0 x1 x2 = r0 := ⟨_, rfl⟩
  have hf0 := hf
  unfold f_intWork at hf
  unfold d_intWork at hd
  refine lv_iload_n hx hb dX14_intWork_0 rfl (lv_at hl 0 rfl) ?_
  by_cases c9_96 : x0.toInt = 96
  · refine lv_tableIn (off := 147) (tgt := 148) hx hb dX14_intWork_1 (by rw [c9_96]; decide) (by rw [c9_96]; decide) (by rw [c9_96]; rfl) (by decide) ?_
    rw [if_pos (c9_96)] at hf
    (try rw [if_pos (c9_96)] at hd)
    refine lv_iload_n hx hb dX14_intWork_148 rfl (lv_at hl 1 rfl) ?_
    refine lv_iload_n hx hb dX14_intWork_149 rfl (lv_at hl 2 rfl) ?_
    refine lv_iadd hx hb dX14_intWork_150 ?_
    refine lv_topi (fun z1 ez1 => ?_)
    obtain rfl : z1 = (x1 + x2) := ez1
    exact W.iret (v := (x1 + x2)) hx hb hr (fun t9 ht9 hW9 => ⟨⟨_, (), rfl, hf.trans hf0.symm, ⟨by rw [ht9]; exact hR.P, hR.D⟩⟩, hR.sS.F ht9⟩) hR.sS.2.2 dX14_intWork_151
  rw [if_neg c9_96] at hf
  (try rw [if_neg c9_96] at hd)
  by_cases c9_97 : x0.toInt = 97
  · refine lv_tableIn (off := 215) (tgt := 216) hx hb dX14_intWork_1 (by rw [c9_97]; decide) (by rw [c9_97]; decide) (by rw [c9_97]; rfl) (by decide) ?_
    rw [if_pos (c9_97)] at hf
    (try rw [if_pos (c9_97)] at hd)
    refine lv_iload_n hx hb dX14_intWork_216 rfl (lv_at hl 1 rfl) ?_
    refine lv_iload_n hx hb dX14_intWork_217 rfl (lv_at hl 2 rfl) ?_
    refine lv_ixor hx hb dX14_intWork_218 ?_
    refine lv_topi (fun z2 ez2 => ?_)
    obtain rfl : z2 = (x1 ^^^ x2) := ez2
    exact W.iret (v := (x1 ^^^ x2)) hx hb hr (fun t9 ht9 hW9 => ⟨⟨_, (), rfl, hf.trans hf0.symm, ⟨by rw [ht9]; exact hR.P, hR.D⟩⟩, hR.sS.F ht9⟩) hR.sS.2.2 dX14_intWork_219
  rw [if_neg c9_97] at hf
  (try rw [if_neg c9_97] at hd)
  by_cases c9_98 : x0.toInt = 98
  · refine lv_tableIn (off := 215) (tgt := 216) hx hb dX14_intWork_1 (by rw [c9_98]; decide) (by rw [c9_98]; decide) (by rw [c9_98]; rfl) (by decide) ?_
    rw [if_pos (c9_98)] at hf
    (try rw [if_pos (c9_98)] at hd)
    refine lv_iload_n hx hb dX14_intWork_216 rfl (lv_at hl 1 rfl) ?_
    refine lv_iload_n hx hb dX14_intWork_217 rfl (lv_at hl 2 rfl) ?_
    refine lv_ixor hx hb dX14_intWork_218 ?_
    refine lv_topi (fun z3 ez3 => ?_)
    obtain rfl : z3 = (x1 ^^^ x2) := ez3
    exact W.iret (v := (x1 ^^^ x2)) hx hb hr (fun t9 ht9 hW9 => ⟨⟨_, (), rfl, hf.trans hf0.symm, ⟨by rw [ht9]; exact hR.P, hR.D⟩⟩, hR.sS.F ht9⟩) hR.sS.2.2 dX14_intWork_219
  rw [if_neg c9_98] at hf
  (try rw [if_neg c9_98] at hd)
  by_cases c9_99 : x0.toInt = 99
  · refine lv_tableIn (off := 215) (tgt := 216) hx hb dX14_intWork_1 (by rw [c9_99]; decide) (by rw [c9_99]; decide) (by rw [c9_99]; rfl) (by decide) ?_
    rw [if_pos (c9_99)] at hf
    (try rw [if_pos (c9_99)] at hd)
    refine lv_iload_n hx hb dX14_intWork_216 rfl (lv_at hl 1 rfl) ?_
    refine lv_iload_n hx hb dX14_intWork_217 rfl (lv_at hl 2 rfl) ?_
    refine lv_ixor hx hb dX14_intWork_218 ?_
    refine lv_topi (fun z4 ez4 => ?_)
    obtain rfl : z4 = (x1 ^^^ x2) := ez4
    exact W.iret (v := (x1 ^^^ x2)) hx hb hr (fun t9 ht9 hW9 => ⟨⟨_, (), rfl, hf.trans hf0.symm, ⟨by rw [ht9]; exact hR.P, hR.D⟩⟩, hR.sS.F ht9⟩) hR.sS.2.2 dX14_intWork_219
  rw [if_neg c9_99] at hf
  (try rw [if_neg c9_99] at hd)
  by_cases c9_100 : x0.toInt = 100
  · refine lv_tableIn (off := 151) (tgt := 152) hx hb dX14_intWork_1 (by rw [c9_100]; decide) (by rw [c9_100]; decide) (by rw [c9_100]; rfl) (by decide) ?_
    rw [if_pos (c9_100)] at hf
    (try rw [if_pos (c9_100)] at hd)
    refine lv_iload_n hx hb dX14_intWork_152 rfl (lv_at hl 1 rfl) ?_
    refine lv_iload_n hx hb dX14_intWork_153 rfl (lv_at hl 2 rfl) ?_
    refine lv_isub hx hb dX14_intWork_154 ?_
    refine lv_topi (fun z5 ez5 => ?_)
    obtain rfl : z5 = (x1 - x2) := ez5
    exact W.iret (v := (x1 - x2)) hx hb hr (fun t9 ht9 hW9 => ⟨⟨_, (), rfl, hf.trans hf0.symm, ⟨by rw [ht9]; exact hR.P, hR.D⟩⟩, hR.sS.F ht9⟩) hR.sS.2.2 dX14_intWork_155
  rw [if_neg c9_100] at hf
  (try rw [if_neg c9_100] at hd)
  by_cases c9_101 : x0.toInt = 101
  · refine lv_tableIn (off := 215) (tgt := 216) hx hb dX14_intWork_1 (by rw [c9_101]; decide) (by rw [c9_101]; decide) (by rw [c9_101]; rfl) (by decide) ?_
    rw [if_pos (c9_101)] at hf
    (try rw [if_pos (c9_101)] at hd)
    refine lv_iload_n hx hb dX14_intWork_216 rfl (lv_at hl 1 rfl) ?_
    refine lv_iload_n hx hb dX14_intWork_217 rfl (lv_at hl 2 rfl) ?_
    refine lv_ixor hx hb dX14_intWork_218 ?_
    refine lv_topi (fun z6 ez6 => ?_)
    obtain rfl : z6 = (x1 ^^^ x2) := ez6
    exact W.iret (v := (x1 ^^^ x2)) hx hb hr (fun t9 ht9 hW9 => ⟨⟨_, (), rfl, hf.trans hf0.symm, ⟨by rw [ht9]; exact hR.P, hR.D⟩⟩, hR.sS.F ht9⟩) hR.sS.2.2 dX14_intWork_219
  rw [if_neg c9_101] at hf
  (try rw [if_neg c9_101] at hd)
  by_cases c9_102 : x0.toInt = 102
  · refine lv_tableIn (off := 215) (tgt := 216) hx hb dX14_intWork_1 (by rw [c9_102]; decide) (by rw [c9_102]; decide) (by rw [c9_102]; rfl) (by decide) ?_
    rw [if_pos (c9_102)] at hf
    (try rw [if_pos (c9_102)] at hd)
    refine lv_iload_n hx hb dX14_intWork_216 rfl (lv_at hl 1 rfl) ?_
    refine lv_iload_n hx hb dX14_intWork_217 rfl (lv_at hl 2 rfl) ?_
    refine lv_ixor hx hb dX14_intWork_218 ?_
    refine lv_topi (fun z7 ez7 => ?_)
    obtain rfl : z7 = (x1 ^^^ x2) := ez7
    exact W.iret (v := (x1 ^^^ x2)) hx hb hr (fun t9 ht9 hW9 => ⟨⟨_, (), rfl, hf.trans hf0.symm, ⟨by rw [ht9]; exact hR.P, hR.D⟩⟩, hR.sS.F ht9⟩) hR.sS.2.2 dX14_intWork_219
  rw [if_neg c9_102] at hf
  (try rw [if_neg c9_102] at hd)
  by_cases c9_103 : x0.toInt = 103
  · refine lv_tableIn (off := 215) (tgt := 216) hx hb dX14_intWork_1 (by rw [c9_103]; decide) (by rw [c9_103]; decide) (by rw [c9_103]; rfl) (by decide) ?_
    rw [if_pos (c9_103)] at hf
    (try rw [if_pos (c9_103)] at hd)
    refine lv_iload_n hx hb dX14_intWork_216 rfl (lv_at hl 1 rfl) ?_
    refine lv_iload_n hx hb dX14_intWork_217 rfl (lv_at hl 2 rfl) ?_
    refine lv_ixor hx hb dX14_intWork_218 ?_
    refine lv_topi (fun z8 ez8 => ?_)
    obtain rfl : z8 = (x1 ^^^ x2) := ez8
    exact W.iret (v := (x1 ^^^ x2)) hx hb hr (fun t9 ht9 hW9 => ⟨⟨_, (), rfl, hf.trans hf0.symm, ⟨by rw [ht9]; exact hR.P, hR.D⟩⟩, hR.sS.F ht9⟩) hR.sS.2.2 dX14_intWork_219
  rw [if_neg c9_103] at hf
  (try rw [if_neg c9_103] at hd)
  by_cases c9_104 : x0.toInt = 104
  · refine lv_tableIn (off := 155) (tgt := 156) hx hb dX14_intWork_1 (by rw [c9_104]; decide) (by rw [c9_104]; decide) (by rw [c9_104]; rfl) (by decide) ?_
    rw [if_pos (c9_104)] at hf
    (try rw [if_pos (c9_104)] at hd)
    refine lv_iload_n hx hb dX14_intWork_156 rfl (lv_at hl 1 rfl) ?_
    refine lv_iload_n hx hb dX14_intWork_157 rfl (lv_at hl 2 rfl) ?_
    refine lv_imul hx hb dX14_intWork_158 ?_
    refine lv_topi (fun z9 ez9 => ?_)
    obtain rfl : z9 = (x1 * x2) := ez9
    exact W.iret (v := (x1 * x2)) hx hb hr (fun t9 ht9 hW9 => ⟨⟨_, (), rfl, hf.trans hf0.symm, ⟨by rw [ht9]; exact hR.P, hR.D⟩⟩, hR.sS.F ht9⟩) hR.sS.2.2 dX14_intWork_159
  rw [if_neg c9_104] at hf
  (try rw [if_neg c9_104] at hd)
  by_cases c9_105 : x0.toInt = 105
  · refine lv_tableIn (off := 215) (tgt := 216) hx hb dX14_intWork_1 (by rw [c9_105]; decide) (by rw [c9_105]; decide) (by rw [c9_105]; rfl) (by decide) ?_
    rw [if_pos (c9_105)] at hf
    (try rw [if_pos (c9_105)] at hd)
    refine lv_iload_n hx hb dX14_intWork_216 rfl (lv_at hl 1 rfl) ?_
    refine lv_iload_n hx hb dX14_intWork_217 rfl (lv_at hl 2 rfl) ?_
    refine lv_ixor hx hb dX14_intWork_218 ?_
    refine lv_topi (fun z10 ez10 => ?_)
    obtain rfl : z10 = (x1 ^^^ x2) := ez10
    exact W.iret (v := (x1 ^^^ x2)) hx hb hr (fun t9 ht9 hW9 => ⟨⟨_, (), rfl, hf.trans hf0.symm, ⟨by rw [ht9]; exact hR.P, hR.D⟩⟩, hR.sS.F ht9⟩) hR.sS.2.2 dX14_intWork_219
  rw [if_neg c9_105] at hf
  (try rw [if_neg c9_105] at hd)
  by_cases c9_106 : x0.toInt = 106
  · refine lv_tableIn (off := 215) (tgt := 216) hx hb dX14_intWork_1 (by rw [c9_106]; decide) (by rw [c9_106]; decide) (by rw [c9_106]; rfl) (by decide) ?_
    rw [if_pos (c9_106)] at hf
    (try rw [if_pos (c9_106)] at hd)
    refine lv_iload_n hx hb dX14_intWork_216 rfl (lv_at hl 1 rfl) ?_
    refine lv_iload_n hx hb dX14_intWork_217 rfl (lv_at hl 2 rfl) ?_
    refine lv_ixor hx hb dX14_intWork_218 ?_
    refine lv_topi (fun z11 ez11 => ?_)
    obtain rfl : z11 = (x1 ^^^ x2) := ez11
    exact W.iret (v := (x1 ^^^ x2)) hx hb hr (fun t9 ht9 hW9 => ⟨⟨_, (), rfl, hf.trans hf0.symm, ⟨by rw [ht9]; exact hR.P, hR.D⟩⟩, hR.sS.F ht9⟩) hR.sS.2.2 dX14_intWork_219
  rw [if_neg c9_106] at hf
  (try rw [if_neg c9_106] at hd)
  by_cases c9_107 : x0.toInt = 107
  · refine lv_tableIn (off := 215) (tgt := 216) hx hb dX14_intWork_1 (by rw [c9_107]; decide) (by rw [c9_107]; decide) (by rw [c9_107]; rfl) (by decide) ?_
    rw [if_pos (c9_107)] at hf
    (try rw [if_pos (c9_107)] at hd)
    refine lv_iload_n hx hb dX14_intWork_216 rfl (lv_at hl 1 rfl) ?_
    refine lv_iload_n hx hb dX14_intWork_217 rfl (lv_at hl 2 rfl) ?_
    refine lv_ixor hx hb dX14_intWork_218 ?_
    refine lv_topi (fun z12 ez12 => ?_)
    obtain rfl : z12 = (x1 ^^^ x2) := ez12
    exact W.iret (v := (x1 ^^^ x2)) hx hb hr (fun t9 ht9 hW9 => ⟨⟨_, (), rfl, hf.trans hf0.symm, ⟨by rw [ht9]; exact hR.P, hR.D⟩⟩, hR.sS.F ht9⟩) hR.sS.2.2 dX14_intWork_219
  rw [if_neg c9_107] at hf
  (try rw [if_neg c9_107] at hd)
  by_cases c9_108 : x0.toInt = 108
  · refine lv_tableIn (off := 159) (tgt := 160) hx hb dX14_intWork_1 (by rw [c9_108]; decide) (by rw [c9_108]; decide) (by rw [c9_108]; rfl) (by decide) ?_
    rw [if_pos (c9_108)] at hf
    (try rw [if_pos (c9_108)] at hd)
    refine lv_iload_n hx hb dX14_intWork_160 rfl (lv_at hl 2 rfl) ?_
    refine lv_iconst (v := (-1)) hx hb dX14_intWork_161 (by decide) ?_
    refine lv_icmp_ne (tgt := 170) hx hb dX14_intWork_162 (by decide) (fun c13 => ?_) (fun c13 => ?_)
    · rw [if_neg (k_ne rfl (by decide) c13)] at hf
      (try rw [if_neg (k_ne rfl (by decide) c13)] at hd)
      refine lv_iload_n hx hb dX14_intWork_170 rfl (lv_at hl 1 rfl) ?_
      refine lv_iload_n hx hb dX14_intWork_171 rfl (lv_at hl 2 rfl) ?_
      obtain ⟨hv14, hd⟩ := hd
      refine lv_idiv hx hb dX14_intWork_172 (n_ne0 hv14) ?_
      refine lv_topi (fun z15 ez15 => ?_)
      obtain rfl : z15 = (x1 / x2) := ez15
      exact W.iret (v := (x1 / x2)) hx hb hr (fun t9 ht9 hW9 => ⟨⟨_, (), rfl, hf.trans hf0.symm, ⟨by rw [ht9]; exact hR.P, hR.D⟩⟩, hR.sS.F ht9⟩) hR.sS.2.2 dX14_intWork_173
    · rw [if_pos (k_eq rfl (by decide) c13)] at hf
      (try rw [if_pos (k_eq rfl (by decide) c13)] at hd)
      refine lv_iload_n hx hb dX14_intWork_165 rfl (lv_at hl 1 rfl) ?_
      refine lv_ineg hx hb dX14_intWork_166 ?_
      refine lv_topi (fun z16 ez16 => ?_)
      obtain rfl : z16 = (-x1) := ez16
      refine lv_goto (tgt := 173) hx hb dX14_intWork_167 (by decide) ?_
      exact W.iret (v := (-x1)) hx hb hr (fun t9 ht9 hW9 => ⟨⟨_, (), rfl, hf.trans hf0.symm, ⟨by rw [ht9]; exact hR.P, hR.D⟩⟩, hR.sS.F ht9⟩) hR.sS.2.2 dX14_intWork_173
  rw [if_neg c9_108] at hf
  (try rw [if_neg c9_108] at hd)
  by_cases c9_109 : x0.toInt = 109
  · refine lv_tableIn (off := 215) (tgt := 216) hx hb dX14_intWork_1 (by rw [c9_109]; decide) (by rw [c9_109]; decide) (by rw [c9_109]; rfl) (by decide) ?_
    rw [if_pos (c9_109)] at hf
    (try rw [if_pos (c9_109)] at hd)
    refine lv_iload_n hx hb dX14_intWork_216 rfl (lv_at hl 1 rfl) ?_
    refine lv_iload_n hx hb dX14_intWork_217 rfl (lv_at hl 2 rfl) ?_
    refine lv_ixor hx hb dX14_intWork_218 ?_
    refine lv_topi (fun z17 ez17 => ?_)
    obtain rfl : z17 = (x1 ^^^ x2) := ez17
    exact W.iret (v := (x1 ^^^ x2)) hx hb hr (fun t9 ht9 hW9 => ⟨⟨_, (), rfl, hf.trans hf0.symm, ⟨by rw [ht9]; exact hR.P, hR.D⟩⟩, hR.sS.F ht9⟩) hR.sS.2.2 dX14_intWork_219
  rw [if_neg c9_109] at hf
  (try rw [if_neg c9_109] at hd)
  by_cases c9_110 : x0.toInt = 110
  · refine lv_tableIn (off := 215) (tgt := 216) hx hb dX14_intWork_1 (by rw [c9_110]; decide) (by rw [c9_110]; decide) (by rw [c9_110]; rfl) (by decide) ?_
    rw [if_pos (c9_110)] at hf
    (try rw [if_pos (c9_110)] at hd)
    refine lv_iload_n hx hb dX14_intWork_216 rfl (lv_at hl 1 rfl) ?_
    refine lv_iload_n hx hb dX14_intWork_217 rfl (lv_at hl 2 rfl) ?_
    refine lv_ixor hx hb dX14_intWork_218 ?_
    refine lv_topi (fun z18 ez18 => ?_)
    obtain rfl : z18 = (x1 ^^^ x2) := ez18
    exact W.iret (v := (x1 ^^^ x2)) hx hb hr (fun t9 ht9 hW9 => ⟨⟨_, (), rfl, hf.trans hf0.symm, ⟨by rw [ht9]; exact hR.P, hR.D⟩⟩, hR.sS.F ht9⟩) hR.sS.2.2 dX14_intWork_219
  rw [if_neg c9_110] at hf
  (try rw [if_neg c9_110] at hd)
  by_cases c9_111 : x0.toInt = 111
  · refine lv_tableIn (off := 215) (tgt := 216) hx hb dX14_intWork_1 (by rw [c9_111]; decide) (by rw [c9_111]; decide) (by rw [c9_111]; rfl) (by decide) ?_
    rw [if_pos (c9_111)] at hf
    (try rw [if_pos (c9_111)] at hd)
    refine lv_iload_n hx hb dX14_intWork_216 rfl (lv_at hl 1 rfl) ?_
    refine lv_iload_n hx hb dX14_intWork_217 rfl (lv_at hl 2 rfl) ?_
    refine lv_ixor hx hb dX14_intWork_218 ?_
    refine lv_topi (fun z19 ez19 => ?_)
    obtain rfl : z19 = (x1 ^^^ x2) := ez19
    exact W.iret (v := (x1 ^^^ x2)) hx hb hr (fun t9 ht9 hW9 => ⟨⟨_, (), rfl, hf.trans hf0.symm, ⟨by rw [ht9]; exact hR.P, hR.D⟩⟩, hR.sS.F ht9⟩) hR.sS.2.2 dX14_intWork_219
  rw [if_neg c9_111] at hf
  (try rw [if_neg c9_111] at hd)
  by_cases c9_112 : x0.toInt = 112
  · refine lv_tableIn (off := 173) (tgt := 174) hx hb dX14_intWork_1 (by rw [c9_112]; decide) (by rw [c9_112]; decide) (by rw [c9_112]; rfl) (by decide) ?_
    rw [if_pos (c9_112)] at hf
    (try rw [if_pos (c9_112)] at hd)
    refine lv_iload_n hx hb dX14_intWork_174 rfl (lv_at hl 2 rfl) ?_
    refine lv_iconst (v := (-1)) hx hb dX14_intWork_175 (by decide) ?_
    refine lv_icmp_ne (tgt := 183) hx hb dX14_intWork_176 (by decide) (fun c20 => ?_) (fun c20 => ?_)
    · rw [if_neg (k_ne rfl (by decide) c20)] at hf
      (try rw [if_neg (k_ne rfl (by decide) c20)] at hd)
      refine lv_iload_n hx hb dX14_intWork_183 rfl (lv_at hl 1 rfl) ?_
      refine lv_iload_n hx hb dX14_intWork_184 rfl (lv_at hl 2 rfl) ?_
      obtain ⟨hv21, hd⟩ := hd
      refine lv_irem hx hb dX14_intWork_185 (n_ne0 hv21) ?_
      refine lv_topi (fun z22 ez22 => ?_)
      obtain rfl : z22 = (x1 - x1 / x2 * x2) := ez22
      exact W.iret (v := (x1 - x1 / x2 * x2)) hx hb hr (fun t9 ht9 hW9 => ⟨⟨_, (), rfl, hf.trans hf0.symm, ⟨by rw [ht9]; exact hR.P, hR.D⟩⟩, hR.sS.F ht9⟩) hR.sS.2.2 dX14_intWork_186
    · rw [if_pos (k_eq rfl (by decide) c20)] at hf
      (try rw [if_pos (k_eq rfl (by decide) c20)] at hd)
      refine lv_iconst (v := 0) hx hb dX14_intWork_179 (by decide) ?_
      refine lv_goto (tgt := 186) hx hb dX14_intWork_180 (by decide) ?_
      exact W.iret (v := 0) hx hb hr (fun t9 ht9 hW9 => ⟨⟨_, (), rfl, hf.trans hf0.symm, ⟨by rw [ht9]; exact hR.P, hR.D⟩⟩, hR.sS.F ht9⟩) hR.sS.2.2 dX14_intWork_186
  rw [if_neg c9_112] at hf
  (try rw [if_neg c9_112] at hd)
  by_cases c9_113 : x0.toInt = 113
  · refine lv_tableIn (off := 215) (tgt := 216) hx hb dX14_intWork_1 (by rw [c9_113]; decide) (by rw [c9_113]; decide) (by rw [c9_113]; rfl) (by decide) ?_
    rw [if_pos (c9_113)] at hf
    (try rw [if_pos (c9_113)] at hd)
    refine lv_iload_n hx hb dX14_intWork_216 rfl (lv_at hl 1 rfl) ?_
    refine lv_iload_n hx hb dX14_intWork_217 rfl (lv_at hl 2 rfl) ?_
    refine lv_ixor hx hb dX14_intWork_218 ?_
    refine lv_topi (fun z23 ez23 => ?_)
    obtain rfl : z23 = (x1 ^^^ x2) := ez23
    exact W.iret (v := (x1 ^^^ x2)) hx hb hr (fun t9 ht9 hW9 => ⟨⟨_, (), rfl, hf.trans hf0.symm, ⟨by rw [ht9]; exact hR.P, hR.D⟩⟩, hR.sS.F ht9⟩) hR.sS.2.2 dX14_intWork_219
  rw [if_neg c9_113] at hf
  (try rw [if_neg c9_113] at hd)
  by_cases c9_114 : x0.toInt = 114
  · refine lv_tableIn (off := 215) (tgt := 216) hx hb dX14_intWork_1 (by rw [c9_114]; decide) (by rw [c9_114]; decide) (by rw [c9_114]; rfl) (by decide) ?_
    rw [if_pos (c9_114)] at hf
    (try rw [if_pos (c9_114)] at hd)
    refine lv_iload_n hx hb dX14_intWork_216 rfl (lv_at hl 1 rfl) ?_
    refine lv_iload_n hx hb dX14_intWork_217 rfl (lv_at hl 2 rfl) ?_
    refine lv_ixor hx hb dX14_intWork_218 ?_
    refine lv_topi (fun z24 ez24 => ?_)
    obtain rfl : z24 = (x1 ^^^ x2) := ez24
    exact W.iret (v := (x1 ^^^ x2)) hx hb hr (fun t9 ht9 hW9 => ⟨⟨_, (), rfl, hf.trans hf0.symm, ⟨by rw [ht9]; exact hR.P, hR.D⟩⟩, hR.sS.F ht9⟩) hR.sS.2.2 dX14_intWork_219
  rw [if_neg c9_114] at hf
  (try rw [if_neg c9_114] at hd)
  by_cases c9_115 : x0.toInt = 115
  · refine lv_tableIn (off := 215) (tgt := 216) hx hb dX14_intWork_1 (by rw [c9_115]; decide) (by rw [c9_115]; decide) (by rw [c9_115]; rfl) (by decide) ?_
    rw [if_pos (c9_115)] at hf
    (try rw [if_pos (c9_115)] at hd)
    refine lv_iload_n hx hb dX14_intWork_216 rfl (lv_at hl 1 rfl) ?_
    refine lv_iload_n hx hb dX14_intWork_217 rfl (lv_at hl 2 rfl) ?_
    refine lv_ixor hx hb dX14_intWork_218 ?_
    refine lv_topi (fun z25 ez25 => ?_)
    obtain rfl : z25 = (x1 ^^^ x2) := ez25
    exact W.iret (v := (x1 ^^^ x2)) hx hb hr (fun t9 ht9 hW9 => ⟨⟨_, (), rfl, hf.trans hf0.symm, ⟨by rw [ht9]; exact hR.P, hR.D⟩⟩, hR.sS.F ht9⟩) hR.sS.2.2 dX14_intWork_219
  rw [if_neg c9_115] at hf
  (try rw [if_neg c9_115] at hd)
  by_cases c9_116 : x0.toInt = 116
  · refine lv_tableIn (off := 215) (tgt := 216) hx hb dX14_intWork_1 (by rw [c9_116]; decide) (by rw [c9_116]; decide) (by rw [c9_116]; rfl) (by decide) ?_
    rw [if_pos (c9_116)] at hf
    (try rw [if_pos (c9_116)] at hd)
    refine lv_iload_n hx hb dX14_intWork_216 rfl (lv_at hl 1 rfl) ?_
    refine lv_iload_n hx hb dX14_intWork_217 rfl (lv_at hl 2 rfl) ?_
    refine lv_ixor hx hb dX14_intWork_218 ?_
    refine lv_topi (fun z26 ez26 => ?_)
    obtain rfl : z26 = (x1 ^^^ x2) := ez26
    exact W.iret (v := (x1 ^^^ x2)) hx hb hr (fun t9 ht9 hW9 => ⟨⟨_, (), rfl, hf.trans hf0.symm, ⟨by rw [ht9]; exact hR.P, hR.D⟩⟩, hR.sS.F ht9⟩) hR.sS.2.2 dX14_intWork_219
  rw [if_neg c9_116] at hf
  (try rw [if_neg c9_116] at hd)
  by_cases c9_117 : x0.toInt = 117
  · refine lv_tableIn (off := 215) (tgt := 216) hx hb dX14_intWork_1 (by rw [c9_117]; decide) (by rw [c9_117]; decide) (by rw [c9_117]; rfl) (by decide) ?_
    rw [if_pos (c9_117)] at hf
    (try rw [if_pos (c9_117)] at hd)
    refine lv_iload_n hx hb dX14_intWork_216 rfl (lv_at hl 1 rfl) ?_
    refine lv_iload_n hx hb dX14_intWork_217 rfl (lv_at hl 2 rfl) ?_
    refine lv_ixor hx hb dX14_intWork_218 ?_
    refine lv_topi (fun z27 ez27 => ?_)
    obtain rfl : z27 = (x1 ^^^ x2) := ez27
    exact W.iret (v := (x1 ^^^ x2)) hx hb hr (fun t9 ht9 hW9 => ⟨⟨_, (), rfl, hf.trans hf0.symm, ⟨by rw [ht9]; exact hR.P, hR.D⟩⟩, hR.sS.F ht9⟩) hR.sS.2.2 dX14_intWork_219
  rw [if_neg c9_117] at hf
  (try rw [if_neg c9_117] at hd)
  by_cases c9_118 : x0.toInt = 118
  · refine lv_tableIn (off := 215) (tgt := 216) hx hb dX14_intWork_1 (by rw [c9_118]; decide) (by rw [c9_118]; decide) (by rw [c9_118]; rfl) (by decide) ?_
    rw [if_pos (c9_118)] at hf
    (try rw [if_pos (c9_118)] at hd)
    refine lv_iload_n hx hb dX14_intWork_216 rfl (lv_at hl 1 rfl) ?_
    refine lv_iload_n hx hb dX14_intWork_217 rfl (lv_at hl 2 rfl) ?_
    refine lv_ixor hx hb dX14_intWork_218 ?_
    refine lv_topi (fun z28 ez28 => ?_)
    obtain rfl : z28 = (x1 ^^^ x2) := ez28
    exact W.iret (v := (x1 ^^^ x2)) hx hb hr (fun t9 ht9 hW9 => ⟨⟨_, (), rfl, hf.trans hf0.symm, ⟨by rw [ht9]; exact hR.P, hR.D⟩⟩, hR.sS.F ht9⟩) hR.sS.2.2 dX14_intWork_219
  rw [if_neg c9_118] at hf
  (try rw [if_neg c9_118] at hd)
  by_cases c9_119 : x0.toInt = 119
  · refine lv_tableIn (off := 215) (tgt := 216) hx hb dX14_intWork_1 (by rw [c9_119]; decide) (by rw [c9_119]; decide) (by rw [c9_119]; rfl) (by decide) ?_
    rw [if_pos (c9_119)] at hf
    (try rw [if_pos (c9_119)] at hd)
    refine lv_iload_n hx hb dX14_intWork_216 rfl (lv_at hl 1 rfl) ?_
    refine lv_iload_n hx hb dX14_intWork_217 rfl (lv_at hl 2 rfl) ?_
    refine lv_ixor hx hb dX14_intWork_218 ?_
    refine lv_topi (fun z29 ez29 => ?_)
    obtain rfl : z29 = (x1 ^^^ x2) := ez29
    exact W.iret (v := (x1 ^^^ x2)) hx hb hr (fun t9 ht9 hW9 => ⟨⟨_, (), rfl, hf.trans hf0.symm, ⟨by rw [ht9]; exact hR.P, hR.D⟩⟩, hR.sS.F ht9⟩) hR.sS.2.2 dX14_intWork_219
  rw [if_neg c9_119] at hf
  (try rw [if_neg c9_119] at hd)
  by_cases c9_120 : x0.toInt = 120
  · refine lv_tableIn (off := 186) (tgt := 187) hx hb dX14_intWork_1 (by rw [c9_120]; decide) (by rw [c9_120]; decide) (by rw [c9_120]; rfl) (by decide) ?_
    rw [if_pos (c9_120)] at hf
    (try rw [if_pos (c9_120)] at hd)
    refine lv_iload_n hx hb dX14_intWork_187 rfl (lv_at hl 1 rfl) ?_
    refine lv_iload_n hx hb dX14_intWork_188 rfl (lv_at hl 2 rfl) ?_
    refine lv_bipush (v := 31) hx hb dX14_intWork_189 (by decide) ?_
    refine lv_iand hx hb dX14_intWork_191 ?_
    refine lv_topi (fun z30 ez30 => ?_)
    obtain rfl : z30 = (x2 &&& (31 : Int32)) := ez30
    refine lv_ishl hx hb dX14_intWork_192 ?_
    refine lv_topi (fun z31 ez31 => ?_)
    obtain rfl : z31 = (x1 <<< ((x2 &&& (31 : Int32)) &&& 31)) := ez31
    exact W.iret (v := (x1 <<< ((x2 &&& (31 : Int32)) &&& 31))) hx hb hr (fun t9 ht9 hW9 => ⟨⟨_, (), rfl, hf.trans hf0.symm, ⟨by rw [ht9]; exact hR.P, hR.D⟩⟩, hR.sS.F ht9⟩) hR.sS.2.2 dX14_intWork_193
  rw [if_neg c9_120] at hf
  (try rw [if_neg c9_120] at hd)
  by_cases c9_121 : x0.toInt = 121
  · refine lv_tableIn (off := 215) (tgt := 216) hx hb dX14_intWork_1 (by rw [c9_121]; decide) (by rw [c9_121]; decide) (by rw [c9_121]; rfl) (by decide) ?_
    rw [if_pos (c9_121)] at hf
    (try rw [if_pos (c9_121)] at hd)
    refine lv_iload_n hx hb dX14_intWork_216 rfl (lv_at hl 1 rfl) ?_
    refine lv_iload_n hx hb dX14_intWork_217 rfl (lv_at hl 2 rfl) ?_
    refine lv_ixor hx hb dX14_intWork_218 ?_
    refine lv_topi (fun z32 ez32 => ?_)
    obtain rfl : z32 = (x1 ^^^ x2) := ez32
    exact W.iret (v := (x1 ^^^ x2)) hx hb hr (fun t9 ht9 hW9 => ⟨⟨_, (), rfl, hf.trans hf0.symm, ⟨by rw [ht9]; exact hR.P, hR.D⟩⟩, hR.sS.F ht9⟩) hR.sS.2.2 dX14_intWork_219
  rw [if_neg c9_121] at hf
  (try rw [if_neg c9_121] at hd)
  by_cases c9_122 : x0.toInt = 122
  · refine lv_tableIn (off := 193) (tgt := 194) hx hb dX14_intWork_1 (by rw [c9_122]; decide) (by rw [c9_122]; decide) (by rw [c9_122]; rfl) (by decide) ?_
    rw [if_pos (c9_122)] at hf
    (try rw [if_pos (c9_122)] at hd)
    refine lv_iload_n hx hb dX14_intWork_194 rfl (lv_at hl 1 rfl) ?_
    refine lv_iload_n hx hb dX14_intWork_195 rfl (lv_at hl 2 rfl) ?_
    refine lv_bipush (v := 31) hx hb dX14_intWork_196 (by decide) ?_
    refine lv_iand hx hb dX14_intWork_198 ?_
    refine lv_topi (fun z33 ez33 => ?_)
    obtain rfl : z33 = (x2 &&& (31 : Int32)) := ez33
    refine lv_ishr hx hb dX14_intWork_199 ?_
    refine lv_topi (fun z34 ez34 => ?_)
    obtain rfl : z34 = (x1 >>> ((x2 &&& (31 : Int32)) &&& 31)) := ez34
    exact W.iret (v := (x1 >>> ((x2 &&& (31 : Int32)) &&& 31))) hx hb hr (fun t9 ht9 hW9 => ⟨⟨_, (), rfl, hf.trans hf0.symm, ⟨by rw [ht9]; exact hR.P, hR.D⟩⟩, hR.sS.F ht9⟩) hR.sS.2.2 dX14_intWork_200
  rw [if_neg c9_122] at hf
  (try rw [if_neg c9_122] at hd)
  by_cases c9_123 : x0.toInt = 123
  · refine lv_tableIn (off := 215) (tgt := 216) hx hb dX14_intWork_1 (by rw [c9_123]; decide) (by rw [c9_123]; decide) (by rw [c9_123]; rfl) (by decide) ?_
    rw [if_pos (c9_123)] at hf
    (try rw [if_pos (c9_123)] at hd)
    refine lv_iload_n hx hb dX14_intWork_216 rfl (lv_at hl 1 rfl) ?_
    refine lv_iload_n hx hb dX14_intWork_217 rfl (lv_at hl 2 rfl) ?_
    refine lv_ixor hx hb dX14_intWork_218 ?_
    refine lv_topi (fun z35 ez35 => ?_)
    obtain rfl : z35 = (x1 ^^^ x2) := ez35
    exact W.iret (v := (x1 ^^^ x2)) hx hb hr (fun t9 ht9 hW9 => ⟨⟨_, (), rfl, hf.trans hf0.symm, ⟨by rw [ht9]; exact hR.P, hR.D⟩⟩, hR.sS.F ht9⟩) hR.sS.2.2 dX14_intWork_219
  rw [if_neg c9_123] at hf
  (try rw [if_neg c9_123] at hd)
  by_cases c9_124 : x0.toInt = 124
  · refine lv_tableIn (off := 200) (tgt := 201) hx hb dX14_intWork_1 (by rw [c9_124]; decide) (by rw [c9_124]; decide) (by rw [c9_124]; rfl) (by decide) ?_
    rw [if_pos (c9_124)] at hf
    (try rw [if_pos (c9_124)] at hd)
    refine lv_iload_n hx hb dX14_intWork_201 rfl (lv_at hl 1 rfl) ?_
    refine lv_iload_n hx hb dX14_intWork_202 rfl (lv_at hl 2 rfl) ?_
    refine lv_bipush (v := 31) hx hb dX14_intWork_203 (by decide) ?_
    refine lv_iand hx hb dX14_intWork_205 ?_
    refine lv_topi (fun z36 ez36 => ?_)
    obtain rfl : z36 = (x2 &&& (31 : Int32)) := ez36
    refine lv_iushr hx hb dX14_intWork_206 rfl ?_
    refine lv_topi (fun z37 ez37 => ?_)
    obtain rfl : z37 = ((x1.toUInt32 >>> ((x2 &&& (31 : Int32)).toUInt32 &&& Int32.toUInt32 31)).toInt32) := ez37
    exact W.iret (v := ((x1.toUInt32 >>> ((x2 &&& (31 : Int32)).toUInt32 &&& Int32.toUInt32 31)).toInt32)) hx hb hr (fun t9 ht9 hW9 => ⟨⟨_, (), rfl, hf.trans hf0.symm, ⟨by rw [ht9]; exact hR.P, hR.D⟩⟩, hR.sS.F ht9⟩) hR.sS.2.2 dX14_intWork_207
  rw [if_neg c9_124] at hf
  (try rw [if_neg c9_124] at hd)
  by_cases c9_125 : x0.toInt = 125
  · refine lv_tableIn (off := 215) (tgt := 216) hx hb dX14_intWork_1 (by rw [c9_125]; decide) (by rw [c9_125]; decide) (by rw [c9_125]; rfl) (by decide) ?_
    rw [if_pos (c9_125)] at hf
    (try rw [if_pos (c9_125)] at hd)
    refine lv_iload_n hx hb dX14_intWork_216 rfl (lv_at hl 1 rfl) ?_
    refine lv_iload_n hx hb dX14_intWork_217 rfl (lv_at hl 2 rfl) ?_
    refine lv_ixor hx hb dX14_intWork_218 ?_
    refine lv_topi (fun z38 ez38 => ?_)
    obtain rfl : z38 = (x1 ^^^ x2) := ez38
    exact W.iret (v := (x1 ^^^ x2)) hx hb hr (fun t9 ht9 hW9 => ⟨⟨_, (), rfl, hf.trans hf0.symm, ⟨by rw [ht9]; exact hR.P, hR.D⟩⟩, hR.sS.F ht9⟩) hR.sS.2.2 dX14_intWork_219
  rw [if_neg c9_125] at hf
  (try rw [if_neg c9_125] at hd)
  by_cases c9_126 : x0.toInt = 126
  · refine lv_tableIn (off := 207) (tgt := 208) hx hb dX14_intWork_1 (by rw [c9_126]; decide) (by rw [c9_126]; decide) (by rw [c9_126]; rfl) (by decide) ?_
    rw [if_pos (c9_126)] at hf
    (try rw [if_pos (c9_126)] at hd)
    refine lv_iload_n hx hb dX14_intWork_208 rfl (lv_at hl 1 rfl) ?_
    refine lv_iload_n hx hb dX14_intWork_209 rfl (lv_at hl 2 rfl) ?_
    refine lv_iand hx hb dX14_intWork_210 ?_
    refine lv_topi (fun z39 ez39 => ?_)
    obtain rfl : z39 = (x1 &&& x2) := ez39
    exact W.iret (v := (x1 &&& x2)) hx hb hr (fun t9 ht9 hW9 => ⟨⟨_, (), rfl, hf.trans hf0.symm, ⟨by rw [ht9]; exact hR.P, hR.D⟩⟩, hR.sS.F ht9⟩) hR.sS.2.2 dX14_intWork_211
  rw [if_neg c9_126] at hf
  (try rw [if_neg c9_126] at hd)
  by_cases c9_127 : x0.toInt = 127
  · refine lv_tableIn (off := 215) (tgt := 216) hx hb dX14_intWork_1 (by rw [c9_127]; decide) (by rw [c9_127]; decide) (by rw [c9_127]; rfl) (by decide) ?_
    rw [if_pos (c9_127)] at hf
    (try rw [if_pos (c9_127)] at hd)
    refine lv_iload_n hx hb dX14_intWork_216 rfl (lv_at hl 1 rfl) ?_
    refine lv_iload_n hx hb dX14_intWork_217 rfl (lv_at hl 2 rfl) ?_
    refine lv_ixor hx hb dX14_intWork_218 ?_
    refine lv_topi (fun z40 ez40 => ?_)
    obtain rfl : z40 = (x1 ^^^ x2) := ez40
    exact W.iret (v := (x1 ^^^ x2)) hx hb hr (fun t9 ht9 hW9 => ⟨⟨_, (), rfl, hf.trans hf0.symm, ⟨by rw [ht9]; exact hR.P, hR.D⟩⟩, hR.sS.F ht9⟩) hR.sS.2.2 dX14_intWork_219
  rw [if_neg c9_127] at hf
  (try rw [if_neg c9_127] at hd)
  by_cases c9_128 : x0.toInt = 128
  · refine lv_tableIn (off := 211) (tgt := 212) hx hb dX14_intWork_1 (by rw [c9_128]; decide) (by rw [c9_128]; decide) (by rw [c9_128]; rfl) (by decide) ?_
    rw [if_pos (c9_128)] at hf
    (try rw [if_pos (c9_128)] at hd)
    refine lv_iload_n hx hb dX14_intWork_212 rfl (lv_at hl 1 rfl) ?_
    refine lv_iload_n hx hb dX14_intWork_213 rfl (lv_at hl 2 rfl) ?_
    refine lv_ior hx hb dX14_intWork_214 ?_
    refine lv_topi (fun z41 ez41 => ?_)
    obtain rfl : z41 = (x1 ||| x2) := ez41
    exact W.iret (v := (x1 ||| x2)) hx hb hr (fun t9 ht9 hW9 => ⟨⟨_, (), rfl, hf.trans hf0.symm, ⟨by rw [ht9]; exact hR.P, hR.D⟩⟩, hR.sS.F ht9⟩) hR.sS.2.2 dX14_intWork_215
  rw [if_neg c9_128] at hf
  (try rw [if_neg c9_128] at hd)
  refine lv_tableOut (tgt := 216) hx hb dX14_intWork_1 (by omega) (by decide) ?_
  refine lv_iload_n hx hb dX14_intWork_216 rfl (lv_at hl 1 rfl) ?_
  refine lv_iload_n hx hb dX14_intWork_217 rfl (lv_at hl 2 rfl) ?_
  refine lv_ixor hx hb dX14_intWork_218 ?_
  refine lv_topi (fun z42 ez42 => ?_)
  obtain rfl : z42 = (x1 ^^^ x2) := ez42
  exact W.iret (v := (x1 ^^^ x2)) hx hb hr (fun t9 ht9 hW9 => ⟨⟨_, (), rfl, hf.trans hf0.symm, ⟨by rw [ht9]; exact hR.P, hR.D⟩⟩, hR.sS.F ht9⟩) hR.sS.2.2 dX14_intWork_219
